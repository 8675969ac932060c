import java.util.NoSuchElementException;

/** Promises 11 to 18: schemas, and what values lack for them. */
public final class SchemasTest {
    private SchemasTest() {
    }

    public static void main(String[] args) {
        making();
        full();
        fields();
        names();
        members();
        faults();
        nearest();
        remembered();
        many();
        atTheGreatestIndex();
        nearestOfMany();
        Check.end("SchemasTest");
    }

    private static void making() {
        Formwarden f = new Formwarden();
        Check.raises("part of no schema", IndexOutOfBoundsException.class, () -> f.schema('!', 0, 0, 0));
        int[][] good = {{'a', 9999, -7, 5000}, {'0', 0, 0, 0}, {'z', 0, 0, 0}, {'b', 0, 0, 0}, {'n', -99, 99, 77},
            {'n', 3, 3, 0}, {'s', 0, 0, 0}, {'s', 1023, 0, 0}, {'l', 0, 0, 4}, {'l', 8, 4, 4}, {'o', 0, 0, 0},
            {'o', 1, 0, 0}, {'u', 11, 0, 99}, {'&', 0, 12, 99}, {'!', 13, 99, 99}, {'r', 0, 0, 0}, {'r', 5, 0, 0}};
        for (int i = 0; i < good.length; i++) {
            int[] g = good[i];
            Check.due("schema " + (char) g[0], f.schema((char) g[0], g[1], g[2], g[3]), i);
        }
        int[][] bad = {{'q', 0, 0, 0}, {'n', -100, 0, 0}, {'n', 0, 100, 0}, {'n', 4, 3, 0}, {'s', -1, 0, 0},
            {'s', 1024, 0, 0}, {'l', 0, -1, 2}, {'l', 0, 0, 5}, {'l', 0, 3, 2}, {'l', 99, 3, 2}, {'o', 2, 0, 0},
            {'o', -1, 0, 0}, {'r', 6, 0, 0}, {'r', -1, 0, 0}, {'N', 0, 0, 0}, {'n', Integer.MIN_VALUE, 0, 0}};
        for (int[] b : bad) {
            Check.raises("schema " + (char) b[0], IllegalArgumentException.class,
                    () -> f.schema((char) b[0], b[1], b[2], b[3]));
        }
        int[][] none = {{'l', 17, 0, 1}, {'l', -1, 0, 1}, {'u', 17, 0, 0}, {'u', 0, 17, 0}, {'&', -1, 0, 0},
            {'&', 0, -1, 0}, {'!', 17, 0, 0}, {'!', Integer.MIN_VALUE, 0, 0}};
        for (int[] b : none) {
            Check.raises("schema " + (char) b[0], IndexOutOfBoundsException.class,
                    () -> f.schema((char) b[0], b[1], b[2], b[3]));
        }
        Check.due("schemas", f.schemas(), 17);
    }

    private static void full() {
        Formwarden f = new Formwarden();
        for (int i = 0; i < 50; i++) {
            Check.due("schema " + i, f.schema('o', 1, 0, 0), i);
        }
        Check.raises("51st", IllegalStateException.class, () -> f.schema('a', 0, 0, 0));
        Check.raises("no such kind", IllegalArgumentException.class, () -> f.schema('c', 0, 0, 0));
        Check.raises("no such part", IndexOutOfBoundsException.class, () -> f.schema('!', 50, 0, 0));
        Check.raises("infer", IllegalStateException.class, () -> f.infer());
        Check.due("schemas", f.schemas(), 50);
        Check.due("last one", f.least(49), 1);
        Check.due("field of the last one", f.field(49, 3, 48, true), false);
        Check.due("least", f.least(49), 2);
    }

    private static void fields() {
        Formwarden f = new Formwarden();
        int n = f.schema('n', 0, 5, 0);
        int o = f.schema('o', 1, 0, 0);
        int last = f.schema('a', 0, 0, 0);
        Check.due("tell", f.field(o, 0, n, true), false);
        Check.due("tell again", f.field(o, 0, n, false), true);
        Check.due("tell another label", f.field(o, 3, n, true), false);
        Check.due("tell nothing any more", f.field(o, 0, -1, true), true);
        Check.due("tell nothing again", f.field(o, 0, -1, false), false);
        Check.raises("itself", IllegalArgumentException.class, () -> f.field(o, 0, o, true));
        Check.raises("a greater one", IllegalArgumentException.class, () -> f.field(o, 0, last, true));
        Check.raises("no record", IllegalArgumentException.class, () -> f.field(last, 0, n, true));
        Check.raises("no record, nothing", IllegalArgumentException.class, () -> f.field(n, 0, -1, true));
        Check.raises("no schema", IndexOutOfBoundsException.class, () -> f.field(3, 0, n, true));
        Check.raises("no label", IndexOutOfBoundsException.class, () -> f.field(o, 4, n, true));
        Check.raises("no label -1", IndexOutOfBoundsException.class, () -> f.field(o, -1, n, true));
        Check.raises("no item", IndexOutOfBoundsException.class, () -> f.field(o, 0, 3, true));
        Check.raises("no item -2", IndexOutOfBoundsException.class, () -> f.field(o, 0, -2, true));
        Check.raises("no item of no record", IndexOutOfBoundsException.class, () -> f.field(n, 0, 3, true));
        int r = f.record();
        Check.due("lacks the label", f.isOf(r, o), false);
        f.field(o, 3, n, false);
        Check.due("need not be there", f.isOf(r, o), true);
        int has = f.with(r, 0, f.value('n', 3));
        Check.due("closed", f.isOf(has, o), false);
        f.field(o, 0, n, false);
        Check.due("told", f.isOf(has, o), true);
    }

    private static void names() {
        Formwarden f = new Formwarden();
        int r0 = f.schema('r', 0, 0, 0);
        int r1 = f.schema('r', 1, 0, 0);
        int z = f.schema('z', 0, 0, 0);
        int v = f.value('z', 0);
        Check.due("unbound", f.isOf(v, r0), false);
        Check.due("bind", f.bind(0, z), -1);
        Check.due("bound", f.isOf(v, r0), true);
        Check.due("bind again", f.bind(0, z), z);
        int not = f.schema('!', r0, 0, 0);
        int both = f.schema('&', z, not, 0);
        int either = f.schema('u', both, z, 0);
        Check.raises("itself", UnsupportedOperationException.class, () -> f.bind(0, r0));
        Check.raises("by a contrary", UnsupportedOperationException.class, () -> f.bind(0, not));
        Check.raises("by a meet", UnsupportedOperationException.class, () -> f.bind(0, both));
        Check.raises("by a union", UnsupportedOperationException.class, () -> f.bind(0, either));
        Check.due("bind another", f.bind(1, either), -1);
        Check.raises("by another name", UnsupportedOperationException.class, () -> f.bind(0, r1));
        Check.due("still bound", f.isOf(v, r0), true);
        int list = f.schema('l', r0, 0, 2);
        Check.due("by a list", f.bind(0, list), z);
        int empty = f.list(-1, -1, -1, -1);
        Check.due("lists of lists", f.isOf(f.list(empty, f.list(empty, -1, -1, -1), -1, -1), r0), true);
        Check.due("nothing is none", f.isOf(v, r0), false);
        Check.due("nothing is not 0, and z", f.isOf(v, r1), true);
        int o = f.schema('o', 1, 0, 0);
        f.field(o, 2, r0, true);
        Check.due("by a record", f.bind(0, o), list);
        Check.raises("no such name", IndexOutOfBoundsException.class, () -> f.bind(6, z));
        Check.raises("no such name -1", IndexOutOfBoundsException.class, () -> f.bind(-1, z));
        Check.raises("no such schema", IndexOutOfBoundsException.class, () -> f.bind(0, 8));
        Check.raises("no such schema -1", IndexOutOfBoundsException.class, () -> f.bind(0, -1));
        Check.due("name 5", f.bind(5, z), -1);
    }

    private static void members() {
        Formwarden f = new Formwarden();
        int z = f.value('z', 0);
        int yes = f.value('b', 1);
        int no = f.value('b', 0);
        int three = f.value('n', 3);
        int two = f.value('s', 2);
        int list = f.list(three, three, -1, -1);
        int rec = f.with(f.record(), 1, two);
        int[] all = {z, yes, no, three, two, list, rec};
        int[][] schemas = {{'a', 0, 0, 0, 0b1111111}, {'0', 0, 0, 0, 0}, {'z', 0, 0, 0, 1}, {'b', 0, 0, 0, 0b110},
            {'n', 3, 5, 0, 0b1000}, {'n', -9, 2, 0, 0}, {'n', -9, 3, 0, 0b1000}, {'n', 4, 5, 0, 0}, {'s', 4, 0, 0, 0b10000},
            {'s', 1019, 0, 0, 0}, {'l', 4, 2, 4, 0b100000}, {'l', 4, 0, 2, 0b100000}, {'l', 4, 0, 1, 0},
            {'l', 4, 3, 4, 0}, {'l', 5, 0, 4, 0}, {'o', 0, 0, 0, 0b1000000}, {'o', 1, 0, 0, 0}, {'!', 3, 0, 0, 0b1111001},
            {'u', 2, 4, 0, 0b1001}, {'&', 17, 18, 0, 0b1001}, {'&', 17, 3, 0, 0}, {'r', 2, 0, 0, 0}};
        for (int s = 0; s < schemas.length; s++) {
            int[] m = schemas[s];
            f.schema((char) m[0], m[1], m[2], m[3]);
            for (int i = 0; i < all.length; i++) {
                Check.due("isOf " + i + " " + s, f.isOf(all[i], s), (m[4] >> i & 1) == 1);
            }
        }
        Check.raises("no such value", IndexOutOfBoundsException.class, () -> f.isOf(8, 0));
        Check.raises("no such value -1", IndexOutOfBoundsException.class, () -> f.isOf(-1, 0));
        Check.raises("no such schema", IndexOutOfBoundsException.class, () -> f.isOf(0, 22));
        Check.raises("no such schema -1", IndexOutOfBoundsException.class, () -> f.isOf(0, -1));
    }

    /** The faults as letters with their paths, in their order. */
    private static String lacks(Formwarden f, int value, int schema) {
        int count = f.faults(value, schema);
        StringBuilder all = new StringBuilder();
        for (int i = 0; i < count; i++) {
            all.append(f.faultAt(i)).append(f.pathAt(i)).append(' ');
        }
        Check.raises("fault behind the last", IndexOutOfBoundsException.class, () -> f.faultAt(count));
        Check.raises("path behind the last", IndexOutOfBoundsException.class, () -> f.pathAt(count));
        Check.raises("fault -1", IndexOutOfBoundsException.class, () -> f.faultAt(-1));
        Check.raises("path -1", IndexOutOfBoundsException.class, () -> f.pathAt(-1));
        return all.toString().trim();
    }

    private static void faults() {
        Formwarden f = new Formwarden();
        int seven = f.value('n', 7);
        int eight = f.value('s', 8);
        int list = f.list(eight, seven, eight, seven);
        int rec = f.with(f.with(f.with(f.record(), 0, list), 2, eight), 3, seven);
        int n = f.schema('n', 0, 5, 0);
        int s = f.schema('s', 1, 0, 0);
        int l = f.schema('l', n, 0, 3);
        int o = f.schema('o', 1, 0, 0);
        f.field(o, 0, l, true);
        f.field(o, 1, n, true);
        f.field(o, 2, s, false);
        int not = f.schema('!', f.schema('a', 0, 0, 0), 0, 0);
        int none = f.schema('0', 0, 0, 0);
        int and = f.schema('&', o, not, 0);
        int unbound = f.schema('r', 0, 0, 0);
        Check.due("range", lacks(f, seven, n), "r0");
        Check.due("kind", lacks(f, eight, n), "k0");
        Check.due("symbol", lacks(f, eight, s), "m0");
        Check.due("list", lacks(f, list, l), "g0 k5 r6 k7 r8");
        Check.due("list of another kind", lacks(f, rec, l), "k0");
        Check.due("record", lacks(f, rec, o), "g1 k15 r16 k17 r18 q2 m3 x4");
        Check.due("record of another kind", lacks(f, list, o), "k0");
        Check.due("not", lacks(f, rec, not), "!0");
        Check.due("none", lacks(f, rec, none), "00");
        Check.due("unbound", lacks(f, rec, unbound), "00");
        Check.due("both", lacks(f, rec, and), "g1 k15 r16 k17 r18 q2 m3 x4 !0");
        Check.due("all", lacks(f, rec, 4), "");
        f.bind(0, l);
        Check.due("bound", lacks(f, list, unbound), "g0 k5 r6 k7 r8");
        Check.due("truth", lacks(f, seven, f.schema('b', 0, 0, 0)), "k0");
        Check.due("nothing", lacks(f, seven, f.schema('z', 0, 0, 0)), "k0");
        f.field(o, 2, -1, false);
        f.field(o, 0, -1, false);
        Check.due("closed", lacks(f, rec, o), "x1 q2 x3 x4");
        int open = f.schema('o', 0, 0, 0);
        f.field(open, 3, none, true);
        Check.due("open", lacks(f, rec, open), "04");
        Check.raises("no such value", IndexOutOfBoundsException.class, () -> f.faults(9, 0));
        Check.raises("no such schema", IndexOutOfBoundsException.class, () -> f.faults(0, 40));
        Check.due("a throw changes nothing", f.faultAt(0), '0');
        Check.due("a throw changes nothing", f.pathAt(0), 4);
        deepPaths();
    }

    private static void deepPaths() {
        Formwarden f = new Formwarden();
        int name = f.schema('r', 0, 0, 0);
        int o = f.schema('o', 1, 0, 0);
        f.field(o, 1, name, false);
        f.field(o, 2, name, true);
        f.bind(0, o);
        int deep = f.record();
        for (int i = 0; i < 5; i++) {
            deep = f.with(f.record(), 2, deep);
        }
        Check.due("deepest", lacks(f, deep, o), "q333333");
        Check.due("deepest through a list", lacks(f, f.list(f.part(deep, 2), -1, -1, -1), f.schema('l', name, 0, 4)), "q533333");
    }

    private static void nearest() {
        Formwarden f = new Formwarden();
        int seven = f.value('n', 7);
        int list = f.list(seven, seven, -1, -1);
        int l = f.schema('l', f.schema('n', 0, 5, 0), 0, 4);
        int s = f.schema('s', 1, 0, 0);
        int n = f.schema('n', 0, 9, 0);
        int z = f.schema('0', 0, 0, 0);
        Check.due("fewer", lacks(f, list, f.schema('u', l, s, 0)), "k0");
        Check.due("fewer, the other way round", lacks(f, list, f.schema('u', s, l, 0)), "k0");
        Check.due("as many: the first", lacks(f, list, f.schema('u', z, s, 0)), "00");
        Check.due("as many: the first, the other way round", lacks(f, list, f.schema('u', s, z, 0)), "k0");
        Check.due("none of the second", lacks(f, seven, f.schema('u', s, n, 0)), "");
        int both = f.schema('&', s, s, 0);
        Check.due("as many of several", lacks(f, list, f.schema('u', l, both, 0)), "r5 r6");
        Check.due("three of two", lacks(f, list, f.schema('u', f.schema('&', both, s, 0), l, 0)), "r5 r6");
    }

    private static void remembered() {
        Formwarden f = new Formwarden();
        int v = f.list(f.value('n', 7), -1, -1, -1);
        int n = f.schema('n', 0, 5, 0);
        int name = f.schema('r', 0, 0, 0);
        int l = f.schema('l', name, 0, 4);
        int o = f.schema('o', 1, 0, 0);
        f.bind(0, n);
        Check.due("faults", f.faults(v, l), 1);
        f.bind(0, o);
        f.field(o, 0, n, true);
        f.schema('a', 0, 0, 0);
        f.isOf(v, l);
        f.isBorneOut(l, o);
        Check.due("found ahead of the change", f.faultAt(0), 'r');
        Check.due("found ahead of the change", f.pathAt(0), 5);
        Check.due("found anew", f.faults(v, l), 1);
        Check.due("found anew", f.faultAt(0), 'k');
        Check.due("none", f.faults(v, 4), 0);
        Check.raises("none any more", IndexOutOfBoundsException.class, () -> f.faultAt(0));
        Check.raises("none any more", IndexOutOfBoundsException.class, () -> f.pathAt(0));
    }

    private static void many() {
        Formwarden f = new Formwarden();
        int v = f.value('z', 0);
        int s = f.schema('0', 0, 0, 0);
        int k = f.schema('n', 0, 0, 0);
        s = f.schema('&', s, k, 0);
        for (int i = 0; i < 20; i++) {
            s = f.schema('&', s, s, 0);
        }
        Check.due("many", f.faults(v, s), 1 << 21);
        Check.due("the last but one", f.faultAt((1 << 21) - 2), '0');
        Check.due("the last", f.faultAt((1 << 21) - 1), 'k');
        Check.raises("no such", IndexOutOfBoundsException.class, () -> f.faultAt(1 << 21));
        Check.raises("no values", NoSuchElementException.class, () -> f.least(0));
    }

    /** As many faults as there are indexes that an int can hold, one less, and far more. */
    private static void atTheGreatestIndex() {
        int most = Integer.MAX_VALUE;
        Formwarden f = new Formwarden();
        int v = f.value('z', 0);
        int none = f.schema('0', 0, 0, 0);
        int both = f.schema('&', none, f.schema('n', 0, 0, 0), 0);
        both = times(f, both, 29);
        Check.due("2^30", f.faults(v, both), 1 << 30);
        at(f, (1 << 30) - 1, 'k', 0);
        Check.raises("2^30", IndexOutOfBoundsException.class, () -> f.faultAt(1 << 30));
        Check.raises("2^30", IndexOutOfBoundsException.class, () -> f.pathAt(1 << 30));
        both = times(f, both, 1);
        f.faults(v, both);
        at(f, most - 1, '0', 0);
        at(f, most, 'k', 0);
        f.faults(v, f.schema('&', none, times(f, both, 9), 0));
        at(f, most - 1, 'k', 0);
        at(f, most, '0', 0);
        Check.raises("-1", IndexOutOfBoundsException.class, () -> f.faultAt(-1));
        Check.raises("least", IndexOutOfBoundsException.class, () -> f.pathAt(Integer.MIN_VALUE));
        oneLess();
    }

    /** So many times doubled. */
    private static int times(Formwarden f, int schema, int times) {
        int s = schema;
        for (int i = 0; i < times; i++) {
            s = f.schema('&', s, s, 0);
        }
        return s;
    }

    /** 2^31 - 1 faults: 2^26 - 1 are joined, and five times those of both parts of a list come behind the length's. */
    private static void oneLess() {
        Formwarden f = new Formwarden();
        int v = f.value('z', 0);
        int one = f.schema('0', 0, 0, 0);
        int three = f.schema('&', f.schema('&', one, one, 0), one, 0);
        int seven = f.schema('&', times(f, three, 1), one, 0);
        int six = f.schema('&', times(f, seven, 3), seven, 0);
        int twelve = f.schema('&', times(f, six, 6), six, 0);
        int thirteen = f.schema('&', times(f, twelve, 1), one, 0);
        int s = f.schema('&', times(f, thirteen, 13), thirteen, 0);
        Check.due("2^26 - 1", f.faults(v, s), (1 << 26) - 1);
        for (int i = 0; i < 5; i++) {
            s = f.schema('l', s, 3, 4);
            v = f.list(v, v, -1, -1);
        }
        int most = Integer.MAX_VALUE;
        Check.due("2^31 - 1", f.faults(v, s), most);
        at(f, 0, 'g', 0);
        at(f, most - 1, '0', 66666);
        Check.raises("2^31 - 1", IndexOutOfBoundsException.class, () -> f.faultAt(most));
        Check.raises("2^31 - 1", IndexOutOfBoundsException.class, () -> f.pathAt(most));
        f.faults(v, f.schema('&', s, f.schema('n', 0, 0, 0), 0));
        at(f, most - 1, '0', 66666);
        at(f, most, 'k', 0);
    }

    private static void at(Formwarden f, int index, char letter, int path) {
        Check.due("fault at " + index, f.faultAt(index), letter);
        Check.due("path at " + index, f.pathAt(index), path);
    }

    /** A name for lists of what it names, each fault of which counts so many times doubled. */
    private static int doubled(Formwarden f, int name, int times) {
        int s = f.schema('l', f.schema('r', name, 0, 0), 0, 4);
        for (int i = 0; i < times; i++) {
            s = f.schema('&', s, s, 0);
        }
        f.bind(name, s);
        return s;
    }

    /** What the first of the faults of a union is: there are up to 2^(6 times + 10) of them. */
    private static void nearestOfMany() {
        int[][] forms = {{0, 0}, {2, 0}, {2, 3}, {9, 8}, {8, 9}, {10, 10}, {13, 9}, {20, 20}, {21, 20}, {20, 21}, {40, 1}, {1, 40}};
        for (int[] form : forms) {
            Formwarden f = new Formwarden();
            int one = doubled(f, 0, form[0]);
            int other = doubled(f, 1, form[1]);
            int none = f.schema('0', 0, 0, 0);
            int more = f.schema('&', none, other, 0);
            int ahead = f.schema('u', one, more, 0);
            int behind = f.schema('u', more, one, 0);
            int last = f.schema('&', other, none, 0);
            boolean fewer = form[0] > form[1];
            int v = f.value('z', 0);
            for (int depth = 0; depth < 6; depth++) {
                String what = form[0] + " and " + form[1] + " doubled at depth " + depth;
                char due = fewer ? '0' : 'k';
                f.faults(v, ahead);
                Check.due(what, f.faultAt(0), due);
                f.faults(v, behind);
                Check.due(what + ", the other way round", f.faultAt(0), due);
                int path = 0;
                for (int i = 0; i < depth && due == 'k'; i++) {
                    path = 10 * path + 5;
                }
                Check.due(what + ", the path", f.pathAt(0), path);
                f.faults(v, last);
                Check.due(what + ", the one with none last", f.faultAt(0), 'k');
                Check.due(what + " borne out", f.isBorneOut(ahead, last), true);
                v = depth < 5 ? f.list(v, v, v, v) : v;
            }
        }
        equalMany();
    }

    /** Of as many, however many, the first one is told. */
    private static void equalMany() {
        Formwarden f = new Formwarden();
        int s = doubled(f, 0, 20);
        int none = f.schema('0', 0, 0, 0);
        int first = f.schema('&', none, s, 0);
        int second = f.schema('&', s, none, 0);
        int one = f.schema('u', first, second, 0);
        int other = f.schema('u', second, first, 0);
        int v = f.value('b', 1);
        for (int depth = 0; depth < 6; depth++) {
            f.faults(v, one);
            Check.due("as many, the first one: " + depth, f.faultAt(0), '0');
            f.faults(v, other);
            Check.due("as many, the second one: " + depth, f.faultAt(0), 'k');
            v = depth < 5 ? f.list(v, v, v, v) : v;
        }
    }
}

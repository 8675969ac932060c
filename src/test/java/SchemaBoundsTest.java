import java.util.NoSuchElementException;

/** Each boundary case that the promises 11 to 18 name, and what the terms say of schemas and faults. */
public final class SchemaBoundsTest {
    private static final Class<IndexOutOfBoundsException> INDEX = IndexOutOfBoundsException.class;
    private static final Class<IllegalArgumentException> ARGUMENT = IllegalArgumentException.class;
    private static final Class<UnsupportedOperationException> UNSUPPORTED = UnsupportedOperationException.class;
    private static final Class<IllegalStateException> STATE = IllegalStateException.class;

    private SchemaBoundsTest() {
    }

    public static void main(String[] args) {
        schemaKinds();
        schemaRanges();
        schemaOfNoMeaning();
        schemaNoSuchPart();
        schemaFull();
        schemaOrder();
        fieldTelling();
        fieldNoSuch();
        fieldOfNoRecord();
        fieldOrder();
        bindNames();
        bindRounds();
        counting();
        memberBounds();
        listBounds();
        recordBounds();
        nameBounds();
        memberNoSuch();
        faultLetters();
        faultOrder();
        faultUnions();
        faultPaths();
        faultIndexes();
        faultNoSuch();
        Check.end("SchemaBoundsTest");
    }

    private static int a(Formwarden f) {
        return f.schema('a', 0, 0, 0);
    }

    /** Promise 11: IllegalArgumentException if there is no such kind. */
    private static void schemaKinds() {
        Formwarden f = new Formwarden();
        String kinds = "a0zbnslou&!r";
        for (int i = 0; i < kinds.length(); i++) {
            Check.due("kind " + kinds.charAt(i), f.schema(kinds.charAt(i), 0, 0, 0), i);
        }
        for (int kind = 0; kind < 300; kind++) {
            char c = (char) kind;
            if (kinds.indexOf(c) < 0) {
                State.raises("kind " + kind, f, ARGUMENT, () -> f.schema(c, 0, 0, 0));
            }
        }
        State.raises("the last sign", f, ARGUMENT, () -> f.schema(Character.MAX_VALUE, 0, 0, 0));
    }

    /** Promise 11: IllegalArgumentException if a number is out of range, or the least one is greater than the greatest one. */
    private static void schemaRanges() {
        Formwarden f = new Formwarden();
        int all = a(f);
        int[][] good = {{'n', -99, -99, 0}, {'n', 99, 99, 0}, {'n', -99, 99, 0}, {'n', 0, 0, 0}, {'s', 0, 0, 0}, {'s', 1023, 0, 0},
            {'s', 512, 0, 0}, {'l', all, 0, 0}, {'l', all, 4, 4}, {'l', all, 0, 4}, {'o', 0, 0, 0}, {'o', 1, 0, 0}, {'r', 0, 0, 0},
            {'r', 5, 0, 0}};
        for (int i = 0; i < good.length; i++) {
            int[] g = good[i];
            Check.due("good " + i, f.schema((char) g[0], g[1], g[2], g[3]), i + 1);
        }
        int most = Integer.MAX_VALUE;
        int least = Integer.MIN_VALUE;
        int[][] bad = {{'n', -100, 0, 0}, {'n', 0, 100, 0}, {'n', 1, 0, 0}, {'n', 99, -99, 0}, {'n', least, 0, 0}, {'n', 0, most, 0},
            {'n', 100, 100, 0}, {'n', -100, -100, 0}, {'s', -1, 0, 0}, {'s', 1024, 0, 0}, {'s', most, 0, 0}, {'s', least, 0, 0},
            {'l', all, -1, 4}, {'l', all, 0, 5}, {'l', all, 1, 0}, {'l', all, 4, 3}, {'l', all, 5, 5}, {'l', all, least, 4},
            {'l', all, 0, most}, {'l', all, -1, -1}, {'o', -1, 0, 0}, {'o', 2, 0, 0}, {'o', most, 0, 0}, {'r', -1, 0, 0},
            {'r', 6, 0, 0}, {'r', most, 0, 0}, {'r', least, 0, 0}};
        for (int[] b : bad) {
            State.raises("bad " + (char) b[0] + b[1] + " " + b[2] + " " + b[3], f, ARGUMENT,
                    () -> f.schema((char) b[0], b[1], b[2], b[3]));
        }
    }

    /** Promise 11: numbers that a kind does not have are of no meaning. */
    private static void schemaOfNoMeaning() {
        Formwarden f = new Formwarden();
        int far = Integer.MIN_VALUE;
        int[][] told = {{'a', far, far, far}, {'0', far, far, far}, {'z', far, far, far}, {'b', far, far, far}, {'n', 2, 3, far},
            {'s', 3, far, far}, {'o', 1, far, far}, {'u', 0, 1, far}, {'&', 0, 1, far}, {'!', 0, far, far}, {'r', 5, far, far}};
        for (int i = 0; i < told.length; i++) {
            int[] t = told[i];
            Check.due("told " + (char) t[0], f.schema((char) t[0], t[1], t[2], t[3]), i);
        }
    }

    /** Promise 11: IndexOutOfBoundsException if there is no such schema as a part. */
    private static void schemaNoSuchPart() {
        Formwarden f = new Formwarden();
        State.raises("a list of none", f, INDEX, () -> f.schema('l', 0, 0, 4));
        int s = a(f);
        Check.due("a part is the last one", f.schema('!', s, 0, 0), 1);
        for (int bad : new int[] {2, 3, -1, 49, 50, Integer.MAX_VALUE, Integer.MIN_VALUE}) {
            State.raises("'l' " + bad, f, INDEX, () -> f.schema('l', bad, 0, 4));
            State.raises("'!' " + bad, f, INDEX, () -> f.schema('!', bad, 0, 0));
            State.raises("'u' " + bad, f, INDEX, () -> f.schema('u', bad, s, 0));
            State.raises("'u', the second " + bad, f, INDEX, () -> f.schema('u', s, bad, 0));
            State.raises("'&' " + bad, f, INDEX, () -> f.schema('&', bad, s, 0));
            State.raises("'&', the second " + bad, f, INDEX, () -> f.schema('&', s, bad, 0));
        }
    }

    /** Promise 11: IllegalStateException if there are 50 schemas; two that are told alike are two. */
    private static void schemaFull() {
        Formwarden f = new Formwarden();
        for (int i = 0; i < 50; i++) {
            Check.due("schema " + i, f.schema('z', 0, 0, 0), i);
        }
        State.raises("the 51st", f, STATE, () -> f.schema('z', 0, 0, 0));
        Check.due("50 schemas", f.schemas(), 50);
    }

    /** Promise 11: the exception listed first is thrown. */
    private static void schemaOrder() {
        Formwarden f = new Formwarden();
        State.raises("out of range, and no such part", f, ARGUMENT, () -> f.schema('l', 7, 3, 2));
        for (int i = 0; i < 50; i++) {
            a(f);
        }
        State.raises("no such kind, and full", f, ARGUMENT, () -> f.schema('x', 0, 0, 0));
        State.raises("out of range, and full", f, ARGUMENT, () -> f.schema('n', 3, 2, 0));
        State.raises("no such part, and full", f, INDEX, () -> f.schema('u', 0, 50, 0));
        State.raises("full", f, STATE, () -> f.schema('u', 0, 49, 0));
    }

    /** Promise 12: whether something was told; -1 tells nothing any more, and must is then of no meaning. */
    private static void fieldTelling() {
        Formwarden f = new Formwarden();
        int n = f.schema('n', 0, 5, 0);
        int z = f.schema('z', 0, 0, 0);
        int o = f.schema('o', 1, 0, 0);
        int r = f.record();
        for (int label = 0; label < 4; label++) {
            Check.due("nothing told at " + label, f.field(o, label, -1, true), false);
            Check.due("and the empty record is of it", f.isOf(r, o), true);
            Check.due("told at " + label, f.field(o, label, n, true), false);
            Check.due("must be there " + label, f.isOf(r, o), false);
            Check.due("told anew at " + label, f.field(o, label, z, false), true);
            Check.due("need not be there " + label, f.isOf(r, o), true);
            Check.due("nothing any more at " + label, f.field(o, label, -1, true), true);
            Check.due("nothing is not told " + label, f.field(o, label, -1, false), false);
            Check.due("nothing must be there " + label, f.isOf(r, o), true);
        }
        Check.due("the schema just ahead", f.field(o, 3, o - 1, true), false);
        Check.due("the first schema", f.field(o, 0, 0, true), false);
    }

    /** Promise 12: IndexOutOfBoundsException if there is no such schema, label or schema for the label. */
    private static void fieldNoSuch() {
        Formwarden f = new Formwarden();
        int n = f.schema('n', 0, 5, 0);
        int o = f.schema('o', 0, 0, 0);
        for (int bad : new int[] {2, -1, 50, Integer.MAX_VALUE, Integer.MIN_VALUE}) {
            State.raises("schema " + bad, f, INDEX, () -> f.field(bad, 0, n, true));
        }
        for (int bad : new int[] {4, -1, Integer.MAX_VALUE, Integer.MIN_VALUE}) {
            State.raises("label " + bad, f, INDEX, () -> f.field(o, bad, n, true));
            State.raises("label " + bad + " for nothing", f, INDEX, () -> f.field(o, bad, -1, true));
        }
        for (int bad : new int[] {2, -2, 50, Integer.MAX_VALUE, Integer.MIN_VALUE}) {
            State.raises("schema for the label " + bad, f, INDEX, () -> f.field(o, 0, bad, true));
        }
    }

    /** Promise 12: IllegalArgumentException if it is no 'o', or the schema for the label has no lower number. */
    private static void fieldOfNoRecord() {
        Formwarden f = new Formwarden();
        for (char kind : "a0zbnslu&!r".toCharArray()) {
            int s = f.schema(kind, 0, 0, 0);
            State.raises("of '" + kind + "'", f, ARGUMENT, () -> f.field(s, 0, 0, true));
            State.raises("of '" + kind + "', nothing", f, ARGUMENT, () -> f.field(s, 0, -1, true));
        }
        int o = f.schema('o', 0, 0, 0);
        int next = f.schema('o', 0, 0, 0);
        State.raises("itself", f, ARGUMENT, () -> f.field(o, 0, o, false));
        State.raises("the next one", f, ARGUMENT, () -> f.field(o, 0, next, false));
        Check.due("the one ahead", f.field(next, 0, o, false), false);
    }

    /** Promise 12: the exception listed first is thrown. */
    private static void fieldOrder() {
        Formwarden f = new Formwarden();
        int s = a(f);
        int o = f.schema('o', 0, 0, 0);
        State.raises("no such label of no record", f, INDEX, () -> f.field(s, 4, s, true));
        State.raises("no such schema for the label, of no record", f, INDEX, () -> f.field(s, 0, 2, true));
        State.raises("no such label, and no lower number", f, INDEX, () -> f.field(o, 4, o, true));
    }

    /** Promise 13: IndexOutOfBoundsException if there is no such name or schema; what it was bound to, or -1. */
    private static void bindNames() {
        Formwarden f = new Formwarden();
        int s = a(f);
        int z = f.schema('z', 0, 0, 0);
        for (int name = 0; name < 6; name++) {
            Check.due("name " + name, f.bind(name, s), -1);
            Check.due("name " + name + " anew", f.bind(name, z), s);
            Check.due("name " + name + " to the same", f.bind(name, z), z);
        }
        for (int bad : new int[] {6, -1, Integer.MAX_VALUE, Integer.MIN_VALUE}) {
            State.raises("name " + bad, f, INDEX, () -> f.bind(bad, s));
        }
        for (int bad : new int[] {2, -1, 50, Integer.MAX_VALUE, Integer.MIN_VALUE}) {
            State.raises("schema " + bad, f, INDEX, () -> f.bind(0, bad));
        }
        State.raises("neither", f, INDEX, () -> f.bind(6, 2));
    }

    /** Promise 13: UnsupportedOperationException if a name would come back to itself by 'u', '&', '!' and 'r' alone. */
    private static void bindRounds() {
        for (char kind : "u&!r".toCharArray()) {
            Formwarden f = new Formwarden();
            int all = a(f);
            int name = f.schema('r', 2, 0, 0);
            int s = kind == 'r' ? name : f.schema(kind, name, all, 0);
            State.raises("by " + kind, f, UNSUPPORTED, () -> f.bind(2, s));
            Check.due("another name by " + kind, f.bind(3, s), -1);
            if (kind != 'r') {
                int second = kind == '!' ? f.schema('!', s, 0, 0) : f.schema(kind, all, name, 0);
                State.raises("by the second part of " + kind, f, UNSUPPORTED, () -> f.bind(2, second));
            }
            int three = f.schema('r', 3, 0, 0);
            State.raises("by another name and " + kind, f, UNSUPPORTED, () -> f.bind(2, three));
            int list = f.schema('l', s, 0, 4);
            Check.due("by a list of " + kind, f.bind(2, list), -1);
            int o = f.schema('o', 0, 0, 0);
            f.field(o, 0, s, true);
            Check.due("by a record of " + kind, f.bind(2, o), list);
            int join = f.schema('u', o, list, 0);
            Check.due("by joins of these", f.bind(2, join), o);
        }
        Formwarden f = new Formwarden();
        for (int name = 0; name < 6; name++) {
            f.schema('r', name, 0, 0);
        }
        for (int name = 0; name < 5; name++) {
            Check.due("a chain of names", f.bind(name, name + 1), -1);
        }
        State.raises("round all names", f, UNSUPPORTED, () -> f.bind(5, 0));
        State.raises("to itself", f, UNSUPPORTED, () -> f.bind(5, 5));
        Check.due("no round", f.bind(5, a(f)), -1);
        Check.due("all the way", f.isOf(f.value('z', 0), 0), true);
    }

    /** Promise 14: the number of schemas. */
    private static void counting() {
        Formwarden f = new Formwarden();
        for (int i = 0; i < 50; i++) {
            Check.due("schemas", f.schemas(), i);
            f.schema('b', 0, 0, 0);
        }
        Check.due("schemas", f.schemas(), 50);
    }

    /** Terms: numbers from a to b; symbols whose bits are set; nothing; truths; all; none. */
    private static void memberBounds() {
        Formwarden f = new Formwarden();
        int n = f.schema('n', -5, 5, 0);
        int one = f.schema('n', 99, 99, 0);
        int s = f.schema('s', 0b1000000001, 0, 0);
        int none = f.schema('s', 0, 0, 0);
        int every = f.schema('s', 1023, 0, 0);
        for (int i = -99; i <= 99; i++) {
            int v = f.value('n', i);
            Check.due("number " + i, f.isOf(v, n), i >= -5 && i <= 5);
            Check.due("number 99 is " + i, f.isOf(v, one), i == 99);
            Check.due("a number is no symbol " + i, f.isOf(v, every), false);
        }
        Formwarden g = new Formwarden();
        int gs = g.schema('s', 0b1000000001, 0, 0);
        int gNone = g.schema('s', 0, 0, 0);
        int gEvery = g.schema('s', 1023, 0, 0);
        int gn = g.schema('n', -99, 99, 0);
        for (int i = 0; i <= 9; i++) {
            int v = g.value('s', i);
            Check.due("symbol " + i, g.isOf(v, gs), i == 0 || i == 9);
            Check.due("of no symbols " + i, g.isOf(v, gNone), false);
            Check.due("of all symbols " + i, g.isOf(v, gEvery), true);
            Check.due("a symbol is no number " + i, g.isOf(v, gn), false);
        }
        Check.due("none is told", s + none, 5);
    }

    /** Terms: lists with at least b and at most c parts, all of the schema a. */
    private static void listBounds() {
        Formwarden f = new Formwarden();
        int n = f.schema('n', 0, 5, 0);
        int low = f.value('n', 5);
        int high = f.value('n', 6);
        int[] lists = {f.list(-1, -1, -1, -1), f.list(low, -1, -1, -1), f.list(low, low, -1, -1), f.list(low, low, low, -1),
            f.list(low, low, low, low)};
        for (int b = 0; b <= 4; b++) {
            for (int c = b; c <= 4; c++) {
                int l = f.schema('l', n, b, c);
                for (int length = 0; length <= 4; length++) {
                    Check.due(length + " from " + b + " to " + c, f.isOf(lists[length], l), length >= b && length <= c);
                }
            }
        }
        int l = f.schema('l', n, 0, 4);
        int[] wrong = {f.list(high, low, low, low), f.list(low, high, low, low), f.list(low, low, high, low), f.list(low, low, low, high)};
        for (int i = 0; i < 4; i++) {
            Check.due("the part " + i + " is not", f.isOf(wrong[i], l), false);
        }
        int none = f.schema('l', f.schema('0', 0, 0, 0), 0, 4);
        Check.due("the empty list of none", f.isOf(lists[0], none), true);
        Check.due("no other list of none", f.isOf(lists[1], none), false);
        Check.due("a record is no list", f.isOf(f.record(), l), false);
    }

    /** Terms: each label that must be there is, each value is of what is told, and where nothing is told closed and open differ. */
    private static void recordBounds() {
        Formwarden f = new Formwarden();
        int n = f.schema('n', 0, 5, 0);
        int closed = f.schema('o', 1, 0, 0);
        int open = f.schema('o', 0, 0, 0);
        int low = f.value('n', 0);
        int high = f.value('n', 6);
        int r = f.record();
        Check.due("the empty record, closed", f.isOf(r, closed), true);
        Check.due("the empty record, open", f.isOf(r, open), true);
        for (int label = 0; label < 4; label++) {
            int one = f.with(r, label, low);
            int wrong = f.with(r, label, high);
            int two = f.with(one, (label + 1) % 4, high);
            Check.due("closed has nothing at " + label, f.isOf(one, closed), false);
            Check.due("open has anything at " + label, f.isOf(wrong, open), true);
            for (int s : new int[] {closed, open}) {
                f.field(s, label, n, true);
                Check.due("must have " + label, f.isOf(r, s), false);
                Check.due("has " + label, f.isOf(one, s), true);
                Check.due("has what is not of it " + label, f.isOf(wrong, s), false);
                Check.due("has more " + label, f.isOf(two, s), s == open);
                f.field(s, label, n, false);
                Check.due("may have " + label, f.isOf(r, s), true);
                Check.due("has it " + label, f.isOf(one, s), true);
                Check.due("has what may not be " + label, f.isOf(wrong, s), false);
                f.field(s, label, -1, true);
            }
        }
        Check.due("a list is no record", f.isOf(f.list(-1, -1, -1, -1), open), false);
    }

    /** Terms: 'r' is what the schema has to which the name is bound, none if it is not bound; also when it is bound anew. */
    private static void nameBounds() {
        Formwarden f = new Formwarden();
        int v = f.value('z', 0);
        int z = f.schema('z', 0, 0, 0);
        int b = f.schema('b', 0, 0, 0);
        for (int name = 0; name < 6; name++) {
            int r = f.schema('r', name, 0, 0);
            int not = f.schema('!', r, 0, 0);
            Check.due("not bound " + name, f.isOf(v, r), false);
            Check.due("the contrary of what is not bound " + name, f.isOf(v, not), true);
            f.bind(name, z);
            Check.due("bound " + name, f.isOf(v, r), true);
            Check.due("the contrary " + name, f.isOf(v, not), false);
            f.bind(name, b);
            Check.due("bound anew " + name, f.isOf(v, r), false);
        }
    }

    /** Promises 15 and 16: IndexOutOfBoundsException if there is no such value or schema. */
    private static void memberNoSuch() {
        Formwarden f = new Formwarden();
        Check.raises("no value and no schema", INDEX, () -> f.isOf(0, 0));
        int v = f.value('z', 0);
        Check.raises("no schema", INDEX, () -> f.isOf(v, 0));
        Check.raises("no schema for faults", INDEX, () -> f.faults(v, 0));
        int s = f.schema('b', 0, 0, 0);
        f.faults(v, s);
        for (int bad : new int[] {1, -1, 50, 199, 200, 599, Integer.MAX_VALUE, Integer.MIN_VALUE}) {
            State.raises("isOf, value " + bad, f, INDEX, () -> f.isOf(bad, s));
            State.raises("isOf, schema " + bad, f, INDEX, () -> f.isOf(v, bad));
            State.raises("faults, value " + bad, f, INDEX, () -> f.faults(bad, s));
            State.raises("faults, schema " + bad, f, INDEX, () -> f.faults(v, bad));
        }
    }

    /** The faults as letters with their paths. */
    private static String lacks(Formwarden f, int value, int schema) {
        int count = f.faults(value, schema);
        StringBuilder all = new StringBuilder();
        for (int i = 0; i < count; i++) {
            all.append(i == 0 ? "" : " ").append(f.faultAt(i)).append(f.pathAt(i));
        }
        Check.due("lacks nothing just if it is of it", count == 0, f.isOf(value, schema));
        Check.raises("the fault " + count, INDEX, () -> f.faultAt(count));
        Check.raises("the path " + count, INDEX, () -> f.pathAt(count));
        return all.toString();
    }

    /** Terms: the letters of faults. */
    private static void faultLetters() {
        Formwarden f = new Formwarden();
        int z = f.value('z', 0);
        int n = f.value('n', 6);
        int s = f.value('s', 3);
        int list = f.list(n, -1, -1, -1);
        int record = f.with(f.record(), 2, n);
        int all = a(f);
        int low = f.schema('n', 0, 5, 0);
        Check.due("'a'", lacks(f, z, all), "");
        Check.due("'0'", lacks(f, z, f.schema('0', 0, 0, 0)), "00");
        Check.due("'r' out of range", lacks(f, n, low), "r0");
        Check.due("below the range", lacks(f, f.value('n', -1), low), "r0");
        Check.due("the end of the range", lacks(f, f.value('n', 5), low), "");
        Check.due("'m'", lacks(f, s, f.schema('s', 1023 - 8, 0, 0)), "m0");
        Check.due("no 'm'", lacks(f, s, f.schema('s', 8, 0, 0)), "");
        Check.due("'g', too short", lacks(f, list, f.schema('l', all, 2, 4)), "g0");
        Check.due("'g', too long", lacks(f, list, f.schema('l', all, 0, 0)), "g0");
        Check.due("no 'g'", lacks(f, list, f.schema('l', all, 1, 1)), "");
        int must = f.schema('o', 0, 0, 0);
        f.field(must, 1, all, true);
        Check.due("'q'", lacks(f, record, must), "q2");
        int closed = f.schema('o', 1, 0, 0);
        Check.due("'x'", lacks(f, record, closed), "x3");
        int both = f.schema('o', 1, 0, 0);
        f.field(both, 1, all, true);
        Check.due("'q' and 'x'", lacks(f, record, both), "q2 x3");
        Check.due("'!'", lacks(f, z, f.schema('!', all, 0, 0)), "!0");
        Check.due("no '!'", lacks(f, z, f.schema('!', low, 0, 0)), "");
        Check.due("'r' not bound", lacks(f, z, f.schema('r', 4, 0, 0)), "00");
        for (char kind : "zbnslo".toCharArray()) {
            int k = f.schema(kind, kind == 'n' ? -99 : kind == 's' ? 1023 : 0, kind == 'n' ? 99 : 0, 4);
            for (int v = 0; v < f.values(); v++) {
                Check.due("'k' of " + kind + " " + v, lacks(f, v, k), f.kindOf(v) == kind ? "" : "k0");
            }
        }
    }

    /** Terms: 'l' the length first, then all parts from the first one on; 'o' the labels by rising numbers; '&' the first part first. */
    private static void faultOrder() {
        Formwarden f = new Formwarden();
        int n = f.value('n', 6);
        int s = f.value('s', 0);
        int low = f.schema('n', 0, 5, 0);
        int l = f.schema('l', low, 0, 3);
        Check.due("the length and all parts", lacks(f, f.list(n, s, s, n), l), "g0 r5 k6 k7 r8");
        Check.due("too short, and a part", lacks(f, f.list(s, -1, -1, -1), f.schema('l', low, 2, 3)), "g0 k5");
        int record = f.with(f.with(f.with(f.record(), 3, n), 1, s), 0, n);
        int o = f.schema('o', 1, 0, 0);
        f.field(o, 1, low, false);
        f.field(o, 2, low, true);
        f.field(o, 3, low, true);
        Check.due("by labels", lacks(f, record, o), "x1 k2 q3 r4");
        int not = f.schema('!', a(f), 0, 0);
        Check.due("both", lacks(f, record, f.schema('&', not, o, 0)), "!0 x1 k2 q3 r4");
        Check.due("both, the other way round", lacks(f, record, f.schema('&', o, not, 0)), "x1 k2 q3 r4 !0");
        Check.due("both the same", lacks(f, n, f.schema('&', low, low, 0)), "r0 r0");
    }

    /** Terms: 'u' none if one of both parts has none, otherwise those of the part with fewer, of as many those of the first one. */
    private static void faultUnions() {
        Formwarden f = new Formwarden();
        int n = f.value('n', 6);
        int low = f.schema('n', 0, 5, 0);
        int high = f.schema('n', 6, 9, 0);
        int s = f.schema('s', 1, 0, 0);
        int two = f.schema('&', s, s, 0);
        int three = f.schema('&', two, low, 0);
        Check.due("the first has none", lacks(f, n, f.schema('u', high, low, 0)), "");
        Check.due("the second has none", lacks(f, n, f.schema('u', three, high, 0)), "");
        Check.due("as many", lacks(f, n, f.schema('u', low, s, 0)), "r0");
        Check.due("as many, the other way round", lacks(f, n, f.schema('u', s, low, 0)), "k0");
        Check.due("the first has one fewer", lacks(f, n, f.schema('u', two, three, 0)), "k0 k0");
        Check.due("the second has one fewer", lacks(f, n, f.schema('u', three, two, 0)), "k0 k0");
        Check.due("a union in a union", lacks(f, n, f.schema('u', three, f.schema('u', two, low, 0), 0)), "r0");
    }

    /** Terms: paths of what lies deepest: 10 times the path of what it is in, plus 1 and the label, or plus 5 and the place. */
    private static void faultPaths() {
        for (int place = 0; place < 4; place++) {
            Formwarden f = new Formwarden();
            int name = f.schema('r', 0, 0, 0);
            int o = f.schema('o', 0, 0, 0);
            f.field(o, place, name, true);
            int z = f.schema('z', 0, 0, 0);
            int l = f.schema('l', f.schema('u', name, z, 0), 0, 4);
            f.bind(0, o);
            int deep = f.value('n', 1);
            int path = 0;
            for (int i = 0; i < 5; i++) {
                deep = f.with(f.record(), place, deep);
                path = 10 * path + 1 + place;
            }
            Check.due("records at " + place, lacks(f, deep, o), "k" + path);
            f.bind(0, l);
            int zero = f.value('z', 0);
            int inner = f.value('n', 1);
            path = 0;
            for (int i = 0; i < 5; i++) {
                int[] p = {zero, zero, zero, zero};
                p[place] = inner;
                inner = f.list(p[0], p[1], p[2], p[3]);
                path = 10 * path + 5 + place;
            }
            Check.due("lists at " + place, lacks(f, inner, l), "k" + path);
        }
    }

    /** Promises 17 and 18: from 0, of the faults that were found last; IndexOutOfBoundsException if there is no such fault. */
    private static void faultIndexes() {
        Formwarden f = new Formwarden();
        int v = f.value('n', 6);
        int n = f.schema('n', 0, 5, 0);
        int two = f.schema('&', n, f.schema('z', 0, 0, 0), 0);
        Check.due("two", f.faults(v, two), 2);
        Check.due("the first", f.faultAt(0), 'r');
        Check.due("the last", f.faultAt(1), 'k');
        for (int bad : new int[] {2, 3, -1, Integer.MAX_VALUE, Integer.MIN_VALUE}) {
            State.raises("fault " + bad, f, INDEX, () -> f.faultAt(bad));
            State.raises("path " + bad, f, INDEX, () -> f.pathAt(bad));
        }
        Check.raises("a call that throws finds nothing", INDEX, () -> f.faults(v, 77));
        Check.due("still the last", f.faultAt(1), 'k');
        Check.due("one", f.faults(v, n), 1);
        Check.raises("no second any more", INDEX, () -> f.faultAt(1));
        Check.due("none", f.faults(v, a(f)), 0);
        Check.raises("no first any more", INDEX, () -> f.faultAt(0));
        Check.raises("no path any more", INDEX, () -> f.pathAt(0));
    }

    /** Promises 17 and 18: before faults were found there are none; what changes afterwards changes nothing in them. */
    private static void faultNoSuch() {
        Formwarden f = new Formwarden();
        int v = f.value('n', 6);
        int n = f.schema('n', 0, 5, 0);
        Check.raises("nothing was found", INDEX, () -> f.faultAt(0));
        f.isOf(v, n);
        f.isBorneOut(n, n);
        Check.raises("nothing was found so", INDEX, () -> f.pathAt(0));
        int o = f.schema('o', 1, 0, 0);
        int r = f.with(f.record(), 3, v);
        f.faults(r, o);
        f.field(o, 3, n, true);
        f.bind(0, o);
        f.value('z', 0);
        a(f);
        f.isOf(r, o);
        Check.due("as it was found", f.faultAt(0), 'x');
        Check.due("where it was found", f.pathAt(0), 4);
        f.faults(r, o);
        Check.due("found anew", f.faultAt(0), 'r');
    }
}

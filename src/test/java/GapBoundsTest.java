import java.util.NoSuchElementException;

/** Each boundary case that the promises 19 to 22, 33 and 36 name, and what the terms say of inclusion. */
public final class GapBoundsTest {
    private static final Class<IndexOutOfBoundsException> INDEX = IndexOutOfBoundsException.class;
    private static final Class<NoSuchElementException> ELEMENT = NoSuchElementException.class;

    private GapBoundsTest() {
    }

    public static void main(String[] args) {
        noSuchSchema();
        empty();
        within();
        gaps();
        smallest();
        leaves();
        numbers();
        symbols();
        lists();
        records();
        anyDepth();
        finite();
        thousand();
        names();
        sums();
        borneOut();
        order();
        Check.end("GapBoundsTest");
    }

    /** That the gap is this, or 0 for none; and what isWithin and isBorneOut tell with it. */
    private static void gap(String what, Formwarden f, int s, int other, int due) {
        Object got = Check.answer(() -> f.gap(s, other));
        Check.due(what, got, due == 0 ? "NoSuchElementException" : due);
        Check.due(what + ", within", f.isWithin(s, other), due == 0);
        Check.due(what + ", borne out", f.isBorneOut(s, other), true);
    }

    private static void least(String what, Formwarden f, int s, int due) {
        Object got = Check.answer(() -> f.least(s));
        Check.due(what, got, due == 0 ? "NoSuchElementException" : due);
        Check.due(what + ", empty", f.isEmpty(s), due == 0);
    }

    /** IndexOutOfBoundsException if there is no such schema, for either. */
    private static void noSuchSchema() {
        Formwarden f = new Formwarden();
        Check.raises("no schema at all", INDEX, () -> f.isEmpty(0));
        Check.raises("no schema at all for both", INDEX, () -> f.isWithin(0, 0));
        int s = f.schema('z', 0, 0, 0);
        for (int bad : new int[] {1, -1, 49, 50, 51, Integer.MAX_VALUE, Integer.MIN_VALUE}) {
            State.raises("isEmpty " + bad, f, INDEX, () -> f.isEmpty(bad));
            State.raises("isWithin " + bad, f, INDEX, () -> f.isWithin(bad, s));
            State.raises("isWithin, other " + bad, f, INDEX, () -> f.isWithin(s, bad));
            State.raises("gap " + bad, f, INDEX, () -> f.gap(bad, s));
            State.raises("gap, other " + bad, f, INDEX, () -> f.gap(s, bad));
            State.raises("least " + bad, f, INDEX, () -> f.least(bad));
            State.raises("gaps " + bad, f, INDEX, () -> f.gaps(bad));
            State.raises("isBorneOut " + bad, f, INDEX, () -> f.isBorneOut(bad, s));
            State.raises("isBorneOut, other " + bad, f, INDEX, () -> f.isBorneOut(s, bad));
        }
        Formwarden g = new Formwarden();
        for (int i = 0; i < 50; i++) {
            g.schema('z', 0, 0, 0);
        }
        least("the 50th", g, 49, 1);
        gap("the 50th in the first", g, 49, 0, 0);
        Check.raises("the 51st", INDEX, () -> g.least(50));
    }

    /** Promise 19: whether it has none. */
    private static void empty() {
        Formwarden f = new Formwarden();
        int all = f.schema('a', 0, 0, 0);
        int none = f.schema('0', 0, 0, 0);
        int[] empty = {none, f.schema('s', 0, 0, 0), f.schema('!', all, 0, 0), f.schema('r', 0, 0, 0), f.schema('l', none, 1, 4),
            f.schema('&', all, none, 0), f.schema('u', none, none, 0), f.schema('&', f.schema('z', 0, 0, 0), f.schema('b', 0, 0, 0), 0)};
        for (int s : empty) {
            least("none " + s, f, s, 0);
        }
        int[] some = {all, f.schema('l', none, 0, 4), f.schema('o', 1, 0, 0), f.schema('!', none, 0, 0), f.schema('u', none, all, 0),
            f.schema('n', 99, 99, 0), f.schema('s', 1, 0, 0), f.schema('s', 512, 0, 0)};
        for (int s : some) {
            least("some " + s, f, s, 1);
        }
        int must = f.schema('o', 0, 0, 0);
        f.field(must, 3, none, true);
        least("must have what is not", f, must, 0);
        f.field(must, 3, none, false);
        least("must not have", f, must, 1);
    }

    /** Promise 20 and terms: within, if the other one has all values that it has. */
    private static void within() {
        Formwarden f = new Formwarden();
        int all = f.schema('a', 0, 0, 0);
        int none = f.schema('0', 0, 0, 0);
        int low = f.schema('n', 0, 5, 0);
        int wide = f.schema('n', 0, 6, 0);
        for (int s : new int[] {all, none, low, wide}) {
            gap("itself " + s, f, s, s, 0);
            gap("in all " + s, f, s, all, 0);
            gap("none in it " + s, f, none, s, 0);
        }
        gap("one more number", f, low, wide, 0);
        gap("one number less", f, wide, low, 1);
        gap("told twice", f, low, f.schema('n', 0, 5, 0), 0);
        gap("all in none", f, all, none, 1);
    }

    /** Promises 21 and 22: NoSuchElementException if it is within, or has no value. */
    private static void gaps() {
        Formwarden f = new Formwarden();
        int z = f.schema('z', 0, 0, 0);
        int none = f.schema('0', 0, 0, 0);
        State.raises("within itself", f, ELEMENT, () -> f.gap(z, z));
        State.raises("none within", f, ELEMENT, () -> f.gap(none, z));
        State.raises("none within none", f, ELEMENT, () -> f.gap(none, none));
        State.raises("no least", f, ELEMENT, () -> f.least(none));
        Check.due("not within", f.gap(z, none), 1);
        Check.due("least", f.least(z), 1);
    }

    /** Terms: the gap is the size of the smallest value that the one has and the other one has not. */
    private static void smallest() {
        Formwarden f = new Formwarden();
        int all = f.schema('a', 0, 0, 0);
        int z = f.schema('z', 0, 0, 0);
        int zs = f.schema('l', z, 0, 4);
        int any = f.schema('l', all, 0, 4);
        int some = f.schema('l', all, 1, 4);
        gap("a list of something else", f, any, zs, 2);
        gap("the empty list is the smallest", f, any, some, 1);
        gap("too long", f, zs, f.schema('l', z, 0, 3), 5);
        gap("one part too long", f, zs, f.schema('l', z, 0, 0), 2);
        gap("the empty list is missing", f, zs, f.schema('l', z, 1, 4), 1);
        int three = f.schema('l', z, 3, 3);
        gap("the smallest of both", f, f.schema('u', three, f.schema('l', zs, 2, 2), 0), f.schema('!', zs, 0, 0), 4);
        least("the smallest of both", f, f.schema('u', three, f.schema('l', zs, 2, 2), 0), 3);
    }

    private static void leaves() {
        Formwarden f = new Formwarden();
        String kinds = "zbnslo";
        int[] s = new int[6];
        for (int i = 0; i < 6; i++) {
            char k = kinds.charAt(i);
            s[i] = k == 'n' ? f.schema('n', -99, 99, 0) : k == 's' ? f.schema('s', 1023, 0, 0)
                    : k == 'l' ? f.schema('l', f.schema('a', 0, 0, 0), 0, 4) : f.schema(k, 0, 0, 0);
        }
        int all = f.schema('a', 0, 0, 0);
        int union = s[0];
        for (int i = 0; i < 6; i++) {
            for (int k = 0; k < 6; k++) {
                gap("kind " + i + " in " + k, f, s[i], s[k], i == k ? 0 : 1);
            }
            gap("not all kinds " + i, f, all, union, 1);
            union = f.schema('u', union, s[i], 0);
        }
        gap("all kinds", f, all, union, 0);
    }

    private static void numbers() {
        Formwarden f = new Formwarden();
        int every = f.schema('n', -99, 99, 0);
        int number = f.schema('!', f.schema('!', every, 0, 0), 0, 0);
        gap("all numbers", f, number, every, 0);
        gap("but the least", f, every, f.schema('n', -98, 99, 0), 1);
        gap("but the greatest", f, every, f.schema('n', -99, 98, 0), 1);
        int halves = f.schema('u', f.schema('n', -99, 0, 0), f.schema('n', 1, 99, 0), 0);
        gap("both halves", f, every, halves, 0);
        gap("one missing between", f, every, f.schema('u', f.schema('n', -99, 0, 0), f.schema('n', 2, 99, 0), 0), 1);
        int meet = f.schema('&', f.schema('n', -99, 3, 0), f.schema('n', 3, 99, 0), 0);
        gap("one number met", f, meet, f.schema('n', 3, 3, 0), 0);
        least("one number met", f, meet, 1);
        least("no number met", f, f.schema('&', f.schema('n', -99, 2, 0), f.schema('n', 3, 99, 0), 0), 0);
    }

    private static void symbols() {
        Formwarden f = new Formwarden();
        int every = f.schema('s', 1023, 0, 0);
        for (int i = 0; i <= 9; i++) {
            int but = f.schema('s', 1023 & ~(1 << i), 0, 0);
            gap("but the symbol " + i, f, every, but, 1);
            gap("and the symbol " + i, f, every, f.schema('u', but, f.schema('s', 1 << i, 0, 0), 0), 0);
        }
    }

    private static void lists() {
        Formwarden f = new Formwarden();
        int all = f.schema('a', 0, 0, 0);
        int list = f.schema('l', all, 0, 4);
        for (int length = 0; length <= 4; length++) {
            int exact = f.schema('l', all, length, length);
            least("lists of " + length, f, exact, length + 1);
            gap("lists but those of " + length, f, list, f.schema('!', exact, 0, 0), length + 1);
        }
        int none = f.schema('0', 0, 0, 0);
        gap("lists of none", f, f.schema('l', none, 0, 4), f.schema('l', all, 0, 0), 0);
        gap("empty lists of none", f, f.schema('l', all, 0, 0), f.schema('l', none, 0, 0), 0);
    }

    private static void records() {
        Formwarden f = new Formwarden();
        int all = f.schema('a', 0, 0, 0);
        int closed = f.schema('o', 1, 0, 0);
        int open = f.schema('o', 0, 0, 0);
        gap("closed in open", f, closed, open, 0);
        gap("open in closed", f, open, closed, 2);
        int may = f.schema('o', 1, 0, 0);
        for (int label = 0; label < 4; label++) {
            gap("open in what may have some labels", f, open, may, 2);
            f.field(may, label, all, false);
        }
        gap("all labels may be there", f, open, may, 0);
        int must = f.schema('o', 1, 0, 0);
        for (int label = 0; label < 4; label++) {
            f.field(must, label, all, true);
            least("so many labels must be there: " + (label + 1), f, must, label + 2);
        }
        gap("must have all labels", f, must, may, 0);
        gap("may have all labels", f, may, must, 1);
    }

    /** Terms: values of any depth count. */
    private static void anyDepth() {
        Formwarden f = new Formwarden();
        int s = f.schema('z', 0, 0, 0);
        int none = f.schema('0', 0, 0, 0);
        for (int depth = 2; depth <= 40; depth++) {
            if (depth % 2 == 0) {
                s = f.schema('l', s, 1, 1);
            } else {
                int o = f.schema('o', 1, 0, 0);
                f.field(o, depth % 4, s, true);
                s = o;
            }
            least("depth " + depth, f, s, depth);
            gap("depth " + depth, f, s, none, depth);
        }
    }

    /** Terms: values are finite. */
    private static void finite() {
        Formwarden f = new Formwarden();
        int name = f.schema('r', 0, 0, 0);
        int lists = f.schema('l', name, 1, 4);
        f.bind(0, lists);
        least("lists that never end", f, name, 0);
        int empty = f.schema('l', name, 0, 0);
        f.bind(0, f.schema('u', lists, empty, 0));
        least("lists that may end", f, name, 1);
        int o = f.schema('o', 0, 0, 0);
        int r = f.schema('r', 1, 0, 0);
        int round = f.schema('o', 0, 0, 0);
        f.field(round, 2, o, true);
        Check.due("a record", f.least(round), 2);
        int again = f.schema('o', 0, 0, 0);
        f.field(again, 2, r, true);
        f.bind(1, again);
        least("records that never end", f, r, 0);
        gap("none of them is not of it", f, again, f.schema('0', 0, 0, 0), 0);
        f.field(again, 2, r, false);
        least("records that may end", f, r, 1);
    }

    /** Records of exactly this size: from 3, 7, 15 .. 511, each of two of the one ahead. */
    private static int sized(Formwarden f, int[] parts) {
        int o = f.schema('o', 1, 0, 0);
        for (int i = 0; i < parts.length; i++) {
            f.field(o, i, parts[i], true);
        }
        return o;
    }

    /** Terms: sizes of 1000 and more count as 1000. */
    private static void thousand() {
        Formwarden f = new Formwarden();
        int none = f.schema('0', 0, 0, 0);
        int[] twice = new int[10];
        twice[0] = f.schema('z', 0, 0, 0);
        for (int i = 1; i < 10; i++) {
            twice[i] = sized(f, new int[] {twice[i - 1], twice[i - 1]});
            least("2^" + (i + 1) + " - 1", f, twice[i], Math.min(1000, (2 << i) - 1));
        }
        int rest = sized(f, new int[] {twice[5], twice[4], twice[2], twice[1]});
        least("105", f, rest, 105);
        int s = sized(f, new int[] {twice[8], twice[7], twice[6], rest});
        least("999", f, s, 999);
        gap("999", f, s, none, 999);
        for (int size = 1000; size <= 1003; size++) {
            s = f.schema('l', s, 1, 1);
            least(size + " counts as 1000", f, s, 1000);
            gap(size + " counts as 1000", f, s, none, 1000);
        }
        int much = s;
        for (int i = 0; i < 5; i++) {
            much = f.schema('l', much, 4, 4);
            least("far more " + i, f, much, 1000);
        }
        gap("greater than another one", f, much, s, 1000);
        Check.due("the sum", f.gaps(much), 1000L * (f.schemas() - 1));
        int either = f.schema('u', much, rest, 0);
        least("the smaller one", f, either, 105);
        gap("the greater one is missing", f, either, rest, 1000);
    }

    /** What names are bound to can change: then the gaps do. */
    private static void names() {
        Formwarden f = new Formwarden();
        int z = f.schema('z', 0, 0, 0);
        int name = f.schema('r', 5, 0, 0);
        int list = f.schema('l', name, 1, 1);
        least("not bound", f, list, 0);
        f.bind(5, z);
        least("bound", f, list, 2);
        gap("bound", f, list, z, 2);
        f.bind(5, f.schema('l', z, 3, 3));
        least("bound anew", f, list, 5);
        int o = f.schema('o', 1, 0, 0);
        least("a record", f, o, 1);
        f.field(o, 0, list, true);
        least("told a label", f, o, 6);
        f.field(o, 0, -1, true);
        least("told no label any more", f, o, 1);
    }

    /** Promise 33: the sum of the gaps to all schemas that it is not within. */
    private static void sums() {
        Formwarden f = new Formwarden();
        int z = f.schema('z', 0, 0, 0);
        Check.due("it alone", f.gaps(z), 0L);
        int all = f.schema('a', 0, 0, 0);
        int none = f.schema('0', 0, 0, 0);
        Check.due("none is within all", f.gaps(none), 0L);
        Check.due("one is not within none", f.gaps(z), 1L);
        Check.due("all is in none of both others", f.gaps(all), 2L);
        int pair = f.schema('l', z, 2, 2);
        Check.due("pairs", f.gaps(pair), 3L + 3L);
        Check.due("told twice", f.schema('l', z, 2, 2), 4);
        Check.due("pairs, told twice", f.gaps(pair), 3L + 3L);
        Formwarden g = new Formwarden();
        g.schema('z', 0, 0, 0);
        for (int i = 1; i < 50; i++) {
            g.schema('l', i - 1, 4, 4);
        }
        Check.due("49 times 1000", g.gaps(49), 49000L);
        Check.due("of the 50th of 50", g.gaps(4), 49L * 341);
    }

    /** Promise 36: of values that were made, with and without them. */
    private static void borneOut() {
        Formwarden f = new Formwarden();
        int n = f.schema('n', 0, 5, 0);
        int wide = f.schema('n', 0, 9, 0);
        int l = f.schema('l', wide, 0, 4);
        int r = f.schema('r', 0, 0, 0);
        for (int made = 0; made < 4; made++) {
            for (int s = 0; s < f.schemas(); s++) {
                for (int t = 0; t < f.schemas(); t++) {
                    Check.due(made + " made: " + s + " " + t, f.isBorneOut(s, t), true);
                }
            }
            if (made == 0) {
                f.value('n', 9);
            } else if (made == 1) {
                f.list(f.value('n', 7), 0, 0, 0);
                f.bind(0, l);
            } else {
                for (int i = -99; i <= 99; i++) {
                    Check.answer(() -> f.list(f.values() - 1, 0, -1, -1));
                    int number = i;
                    Check.answer(() -> f.value('n', number));
                }
            }
        }
        Check.due("200 values", f.values(), 200);
        Check.due("they were told", n + r, 3);
    }

    /** Of several exceptions the first one: no such schema, though the other one would be within. */
    private static void order() {
        Formwarden f = new Formwarden();
        f.schema('0', 0, 0, 0);
        State.raises("no such other one", f, INDEX, () -> f.gap(0, 1));
        State.raises("no such one", f, INDEX, () -> f.gap(1, 0));
        State.raises("neither", f, INDEX, () -> f.gap(1, 1));
    }
}

import java.util.NoSuchElementException;

/** Promises 19 to 22, 33 and 36: inclusion, gaps and the smallest values. */
public final class InclusionTest {
    private InclusionTest() {
    }

    public static void main(String[] args) {
        leaves();
        lists();
        longLists();
        records();
        contraries();
        names();
        large();
        sums();
        borneOut();
        manyKinds();
        manyKindsDeep();
        words();
        cycles();
        manyRivals();
        doubled();
        neverMet();
        wrong();
        Check.end("InclusionTest");
    }

    /** What gap answers, 0 for none; isWithin and isBorneOut must go with it. */
    private static void gap(String what, Formwarden f, int s, int other, int due) {
        Object got = Check.answer(() -> f.gap(s, other));
        Check.due(what, got, due == 0 ? "NoSuchElementException" : due);
        Check.due(what + " within", f.isWithin(s, other), due == 0);
        Check.due(what + " borne out", f.isBorneOut(s, other), true);
    }

    private static void least(String what, Formwarden f, int s, int due) {
        Object got = Check.answer(() -> f.least(s));
        Check.due(what, got, due == 0 ? "NoSuchElementException" : due);
        Check.due(what + " empty", f.isEmpty(s), due == 0);
    }

    private static void leaves() {
        Formwarden f = new Formwarden();
        int all = f.schema('a', 0, 0, 0);
        int none = f.schema('0', 0, 0, 0);
        int z = f.schema('z', 0, 0, 0);
        int b = f.schema('b', 0, 0, 0);
        int n = f.schema('n', 0, 99, 0);
        int low = f.schema('n', 0, 5, 0);
        int high = f.schema('n', 7, 99, 0);
        int some = f.schema('s', 6, 0, 0);
        int noSymbol = f.schema('s', 0, 0, 0);
        for (int s : new int[] {all, z, b, n, low, some}) {
            least("least " + s, f, s, 1);
            gap("none", f, none, s, 0);
            gap("of all", f, s, all, 0);
            gap("of none", f, s, none, 1);
            gap("of itself", f, s, s, 0);
        }
        least("none", f, none, 0);
        least("no symbol", f, noSymbol, 0);
        gap("low in all numbers", f, low, n, 0);
        gap("all numbers in low", f, n, low, 1);
        gap("all numbers in low and high", f, n, f.schema('u', low, high, 0), 1);
        gap("all numbers in low, 6 and high", f, n, f.schema('u', f.schema('u', low, high, 0), f.schema('n', 6, 6, 0), 0), 0);
        gap("symbols", f, some, f.schema('s', 7, 0, 0), 0);
        gap("symbols the other way round", f, f.schema('s', 7, 0, 0), some, 1);
        gap("no symbol in none", f, noSymbol, none, 0);
        gap("kinds", f, z, b, 1);
        gap("the lowest number", f, f.schema('n', -99, 99, 0), f.schema('n', -98, 99, 0), 1);
        gap("the greatest number", f, f.schema('n', -99, 99, 0), f.schema('n', -99, 98, 0), 1);
    }

    private static void lists() {
        Formwarden f = new Formwarden();
        int low = f.schema('n', 0, 5, 0);
        int wide = f.schema('n', 0, 9, 0);
        int none = f.schema('0', 0, 0, 0);
        int lows = f.schema('l', low, 0, 4);
        int wides = f.schema('l', wide, 0, 4);
        gap("lists", f, lows, wides, 0);
        gap("lists the other way round", f, wides, lows, 2);
        gap("lists of at least 2", f, f.schema('l', wide, 2, 4), lows, 3);
        gap("lists of lists", f, f.schema('l', wides, 2, 2), f.schema('l', lows, 0, 4), 4);
        gap("the empty list", f, lows, f.schema('l', wide, 1, 4), 1);
        gap("no list but the empty one", f, f.schema('l', none, 0, 4), f.schema('l', none, 0, 0), 0);
        least("lists of 3", f, f.schema('l', low, 3, 4), 4);
        least("lists of none", f, f.schema('l', none, 1, 4), 0);
        least("the empty list of none", f, f.schema('l', none, 0, 4), 1);
        int symbols = f.schema('s', 1023, 0, 0);
        int mixed = f.schema('l', f.schema('u', low, symbols, 0), 2, 3);
        int one = f.schema('u', f.schema('l', low, 2, 3), f.schema('l', symbols, 2, 3), 0);
        gap("mixed lists are of neither", f, mixed, one, 3);
        gap("of both is mixed", f, one, mixed, 0);
        gap("three kinds need three parts", f, f.schema('l', f.schema('a', 0, 0, 0), 0, 4), f.schema('u',
                f.schema('u', f.schema('l', f.schema('!', low, 0, 0), 0, 4), f.schema('l', f.schema('!', symbols, 0, 0), 0, 4), 0),
                f.schema('l', f.schema('!', f.schema('z', 0, 0, 0), 0, 0), 0, 4), 0), 4);
    }

    private static void longLists() {
        Formwarden f = new Formwarden();
        int all = f.schema('a', 0, 0, 0);
        int others = f.schema('!', f.schema('l', all, 0, 4), 0, 0);
        for (int most = 0; most < 4; most++) {
            int upTo = f.schema('u', f.schema('l', all, 0, most), others, 0);
            Formwarden g = new Formwarden();
            int every = g.schema('a', 0, 0, 0);
            int few = g.schema('l', every, 0, most);
            int rest = g.schema('u', few, g.schema('u', g.schema('z', 0, 0, 0), g.schema('b', 0, 0, 0), 0), 0);
            rest = g.schema('u', rest, g.schema('u', g.schema('n', -99, 99, 0), g.schema('s', 1023, 0, 0), 0), 0);
            rest = g.schema('u', rest, g.schema('o', 0, 0, 0), 0);
            gap("longer than told", f, all, upTo, most + 2);
            gap("longer than any list told", g, every, rest, most + 2);
        }
    }

    private static void records() {
        Formwarden f = new Formwarden();
        int low = f.schema('n', 0, 5, 0);
        int wide = f.schema('n', 0, 9, 0);
        int none = f.schema('0', 0, 0, 0);
        int open = f.schema('o', 0, 0, 0);
        int closed = f.schema('o', 1, 0, 0);
        int must = f.schema('o', 1, 0, 0);
        f.field(must, 0, low, true);
        int may = f.schema('o', 1, 0, 0);
        f.field(may, 0, wide, false);
        int openMust = f.schema('o', 0, 0, 0);
        f.field(openMust, 0, low, true);
        f.field(openMust, 3, wide, true);
        int never = f.schema('o', 0, 0, 0);
        f.field(never, 1, none, false);
        int impossible = f.schema('o', 0, 0, 0);
        f.field(impossible, 1, none, true);
        least("open", f, open, 1);
        least("must", f, must, 2);
        least("may", f, may, 1);
        least("two musts", f, openMust, 3);
        least("impossible", f, impossible, 0);
        least("never there", f, never, 1);
        gap("closed in open", f, closed, open, 0);
        gap("open in closed", f, open, closed, 2);
        gap("must in may", f, must, may, 0);
        gap("may in must", f, may, must, 1);
        gap("may in closed", f, may, closed, 2);
        gap("may in closed or must", f, may, f.schema('u', closed, must, 0), 2);
        gap("two musts in open", f, openMust, open, 0);
        gap("two musts in must", f, openMust, must, 3);
        gap("never in open", f, never, open, 0);
        gap("open in never", f, open, never, 2);
        int pair = f.schema('o', 1, 0, 0);
        f.field(pair, 0, wide, true);
        f.field(pair, 1, wide, true);
        int lowFirst = f.schema('o', 1, 0, 0);
        f.field(lowFirst, 0, low, true);
        f.field(lowFirst, 1, wide, true);
        int lowSecond = f.schema('o', 1, 0, 0);
        f.field(lowSecond, 0, wide, true);
        f.field(lowSecond, 1, low, true);
        int either = f.schema('u', lowFirst, lowSecond, 0);
        gap("both high", f, pair, either, 3);
        int bothHigh = f.schema('o', 0, 0, 0);
        int high = f.schema('n', 6, 9, 0);
        int told = f.schema('o', 0, 0, 0);
        f.field(told, 0, high, true);
        f.field(told, 1, high, true);
        gap("all pairs told", f, pair, f.schema('u', either, told, 0), 0);
        f.field(told, 2, low, true);
        gap("told by one more label", f, pair, f.schema('u', either, told, 0), 3);
        gap("tells nothing", f, bothHigh, open, 0);
        f.field(told, 2, -1, true);
        gap("told no more", f, pair, f.schema('u', either, told, 0), 0);
    }

    private static void contraries() {
        Formwarden f = new Formwarden();
        int all = f.schema('a', 0, 0, 0);
        int z = f.schema('z', 0, 0, 0);
        int not = f.schema('!', z, 0, 0);
        int notNot = f.schema('!', not, 0, 0);
        gap("twice contrary", f, notNot, z, 0);
        gap("twice contrary, the other way round", f, z, notNot, 0);
        gap("either is all", f, all, f.schema('u', z, not, 0), 0);
        least("both is none", f, f.schema('&', z, not, 0), 0);
        int o = f.schema('o', 0, 0, 0);
        f.field(o, 0, z, true);
        int notO = f.schema('!', o, 0, 0);
        int fresh = f.schema('o', 0, 0, 0);
        f.field(fresh, 0, not, true);
        gap("contrary of what is there", f, fresh, notO, 0);
        gap("or nothing is there", f, f.schema('&', f.schema('o', 0, 0, 0), notO, 0), fresh, 1);
        least("records that have no nothing at 0, but something", f,
                f.schema('&', notO, f.schema('&', f.schema('o', 0, 0, 0), f.schema('!', f.schema('o', 1, 0, 0), 0, 0), 0), 0), 2);
        Formwarden g = new Formwarden();
        int yes = g.schema('n', 1, 1, 0);
        int name = g.schema('r', 0, 0, 0);
        int noSuch = g.schema('!', name, 0, 0);
        int list = g.schema('l', noSuch, 1, 1);
        g.bind(0, g.schema('u', list, yes, 0));
        least("lists of what is none such", g, list, 2);
        gap("[x] for x none such", g, g.schema('l', list, 1, 1), name, 3);
        gap("[[x]] for x such", g, g.schema('l', g.schema('l', yes, 1, 1), 1, 1), name, 0);
        gap("[x] for x such", g, g.schema('l', yes, 1, 1), name, 2);
    }

    private static void names() {
        Formwarden f = new Formwarden();
        int name = f.schema('r', 0, 0, 0);
        least("unbound", f, name, 0);
        int endless = f.schema('o', 1, 0, 0);
        f.field(endless, 0, name, true);
        f.bind(0, endless);
        least("endless", f, name, 0);
        int z = f.schema('z', 0, 0, 0);
        gap("endless in all", f, endless, z, 0);
        int chain = f.schema('u', z, endless, 0);
        f.bind(0, chain);
        least("chain", f, name, 1);
        gap("chains are more than nothing", f, chain, z, 2);
        int even = f.schema('r', 1, 0, 0);
        int inner = f.schema('o', 1, 0, 0);
        f.field(inner, 0, even, true);
        int outer = f.schema('o', 1, 0, 0);
        f.field(outer, 0, inner, true);
        f.bind(1, f.schema('u', z, outer, 0));
        gap("even chains are chains", f, even, name, 0);
        gap("chains are not all even", f, name, even, 2);
        int third = f.schema('o', 1, 0, 0);
        f.field(third, 0, outer, true);
        least("three more", f, third, 4);
        gap("three more are odd", f, third, even, 4);
        int deep = f.schema('l', third, 2, 4);
        least("lists of them", f, deep, 9);
        f.bind(1, z);
        least("bound anew", f, third, 4);
        least("bound anew: two", f, outer, 3);
        f.bind(0, f.schema('0', 0, 0, 0));
        least("bound to none", f, endless, 0);
    }

    /** Sizes double from schema to schema: 1, 3, 7, .., 511, 1023. */
    private static void large() {
        Formwarden f = new Formwarden();
        int none = f.schema('0', 0, 0, 0);
        int s = f.schema('z', 0, 0, 0);
        int size = 1;
        for (int i = 0; i < 40; i++) {
            int o = f.schema('o', 1, 0, 0);
            f.field(o, 0, s, true);
            f.field(o, 3, s, true);
            s = o;
            size = Math.min(2 * size + 1, 1000);
            least("doubled " + i, f, s, size);
            gap("doubled " + i, f, s, none, size);
            gap("doubled in itself " + i, f, s, f.schemas() - 1, 0);
        }
        Formwarden g = new Formwarden();
        int b = g.schema('b', 0, 0, 0);
        int exact = b;
        for (int i = 0; i < 4; i++) {
            exact = g.schema('l', exact, 4, 4);
        }
        least("341", g, exact, 341);
        int two = g.schema('l', exact, 2, 2);
        least("683", g, two, 683);
        int almost = g.schema('o', 1, 0, 0);
        g.field(almost, 0, two, true);
        int o = almost;
        least("684", g, almost, 684);
        for (int i = 0; i < 2; i++) {
            int more = g.schema('o', 1, 0, 0);
            g.field(more, 0, o, true);
            g.field(more, 1, b, false);
            o = more;
        }
        least("686", g, o, 686);
        int inner = g.schema('l', b, 4, 4);
        int mid = g.schema('l', inner, 4, 4);
        int big = g.schema('l', mid, 3, 3);
        int top = g.schema('o', 1, 0, 0);
        g.field(top, 0, two, true);
        g.field(top, 1, mid, true);
        g.field(top, 2, big, true);
        least("769", g, top, 1 + 683 + 21 + 64);
        int last = g.schema('o', 1, 0, 0);
        int[] parts = {top, big, big, big};
        for (int i = 0; i < 4; i++) {
            g.field(last, i, parts[i], true);
        }
        least("962", g, last, 1 + 769 + 3 * 64);
        int wrapped = g.schema('o', 1, 0, 0);
        g.field(wrapped, 0, last, true);
        g.field(wrapped, 1, mid, true);
        least("984", g, wrapped, 1 + 962 + 21);
        int nearly = g.schema('o', 1, 0, 0);
        g.field(nearly, 0, wrapped, true);
        g.field(nearly, 1, inner, true);
        g.field(nearly, 2, inner, true);
        g.field(nearly, 3, b, true);
        least("996", g, nearly, 1 + 984 + 11);
        int under = g.schema('o', 1, 0, 0);
        g.field(under, 0, nearly, true);
        g.field(under, 1, b, true);
        g.field(under, 2, b, true);
        least("999", g, under, 999);
        int exactly = g.schema('l', under, 1, 1);
        least("1000", g, exactly, 1000);
        least("1001", g, g.schema('l', exactly, 1, 1), 1000);
        gap("999 in none", g, under, g.schema('0', 0, 0, 0), 999);
    }

    private static void sums() {
        Formwarden f = new Formwarden();
        int z = f.schema('z', 0, 0, 0);
        int l = f.schema('l', z, 2, 4);
        int all = f.schema('a', 0, 0, 0);
        int none = f.schema('0', 0, 0, 0);
        Check.due("gaps of none", f.gaps(none), 0L);
        Check.due("gaps of all", f.gaps(all), 3L);
        Check.due("gaps of lists", f.gaps(l), 3L + 3L);
        int big = l;
        for (int i = 0; i < 9; i++) {
            big = f.schema('l', big, 2, 2);
        }
        least("big", f, big, 1000);
        Check.due("gaps of a big one", f.gaps(big), 11 * 1000L);
        Check.raises("no such", IndexOutOfBoundsException.class, () -> f.gaps(13));
        Check.raises("no such -1", IndexOutOfBoundsException.class, () -> f.gaps(-1));
    }

    private static void borneOut() {
        Formwarden f = new Formwarden();
        int n = f.schema('n', 0, 5, 0);
        int l = f.schema('l', n, 0, 3);
        int o = f.schema('o', 0, 0, 0);
        f.field(o, 1, l, true);
        int not = f.schema('!', o, 0, 0);
        int seven = f.value('n', 7);
        int five = f.value('n', 5);
        int list = f.list(five, seven, -1, -1);
        f.with(f.record(), 1, list);
        f.with(f.record(), 1, f.list(five, five, five, -1));
        for (int s = 0; s < 4; s++) {
            for (int t = 0; t < 4; t++) {
                Check.due("borne out " + s + " " + t, f.isBorneOut(s, t), true);
            }
        }
        Check.raises("no such", IndexOutOfBoundsException.class, () -> f.isBorneOut(4, not));
        Check.raises("no such other", IndexOutOfBoundsException.class, () -> f.isBorneOut(not, 4));
        Check.raises("no such -1", IndexOutOfBoundsException.class, () -> f.isBorneOut(-1, -1));
    }

    /** Records with one number of five ranges at each of four labels, open otherwise: schemas from the one answered. */
    private static int twentyRecords(Formwarden f) {
        int[] symbols = {341, 614, 120, 896};
        int[] items = new int[5];
        for (int i = 0; i < 4; i++) {
            items[i] = f.schema('u', f.schema('s', symbols[i], 0, 0), f.schema('n', 10 * i, 39 + 10 * i, 0), 0);
        }
        items[4] = f.schema('n', 0, 99, 0);
        int first = f.schemas();
        for (int label = 0; label < 4; label++) {
            for (int item : items) {
                int o = f.schema('o', 0, 0, 0);
                f.field(o, label, item, true);
            }
        }
        return first;
    }

    /** What some of the kinds that the schemas tell apart have and others not must not get lost among the many. */
    private static void manyKinds() {
        for (int form = 0; form < 5; form++) {
            Formwarden f = new Formwarden();
            int first = twentyRecords(f);
            int whole = f.schema('&', f.schema('&', first + 4, first + 9, 0), f.schema('&', first + 14, first + 19, 0), 0);
            int union = -1;
            for (int i = 0; i < 4; i++) {
                int o = f.schema('o', 0, 0, 0);
                for (int label = 0; label < 4; label++) {
                    f.field(o, label, first + 5 * label + i, false);
                }
                union = i == 0 ? o : f.schema('u', union, o, 0);
            }
            int not = f.schema('!', union, 0, 0);
            int rest = restOf(f, form, whole);
            int second = f.schema('&', f.schema('u', union, not, 0), rest, 0);
            int both = f.schema('u', whole, second, 0);
            int[] leasts = {0, 3, 0, 21, 1};
            String what = "many kinds " + form;
            least(what + " second", f, second, leasts[form]);
            least(what + " both", f, both, leasts[form] == 0 ? 5 : Math.min(5, leasts[form]));
            gap(what + " both in second", f, both, second, 5);
            gap(what + " whole in union", f, whole, union, 5);
            gap(what + " whole in not", f, whole, not, 0);
            gap(what + " rest in second", f, rest, second, 0);
            int at = f.value('n', 70);
            int v = f.record();
            for (int label = 0; label < 4; label++) {
                v = f.with(v, label, at);
            }
            Check.due(what + " is of it", f.isOf(v, both), true);
            Check.due(what + " borne out", f.isBorneOut(both, second) && f.isBorneOut(second, both), true);
        }
    }

    /** What the second side of the union is met with: nothing that is, lists, an endless record, four wholes, a truth. */
    private static int restOf(Formwarden f, int form, int whole) {
        if (form == 0) {
            return f.schema('&', f.schema('z', 0, 0, 0), f.schema('b', 0, 0, 0), 0);
        }
        if (form == 1) {
            return f.schema('l', 0, 2, 3);
        }
        if (form == 4) {
            return f.schema('b', 0, 0, 0);
        }
        int name = form == 2 ? f.schema('r', 0, 0, 0) : whole;
        int o = f.schema('o', 1, 0, 0);
        for (int label = 0; label < 4; label++) {
            f.field(o, label, name, true);
        }
        f.bind(0, o);
        return o;
    }

    /** Records in records: three ranges at two labels at four labels; the union of six that ask for them everywhere. */
    private static void manyKindsDeep() {
        Formwarden f = new Formwarden();
        int[] inner = new int[6];
        for (int i = 0; i < 3; i++) {
            f.schema('n', 10 * i, 24 + 10 * i, 0);
        }
        for (int i = 0; i < 6; i++) {
            inner[i] = f.schema('o', 0, 0, 0);
            f.field(inner[i], i / 3, i % 3, true);
        }
        int first = f.schemas();
        for (int label = 0; label < 4; label++) {
            for (int i = 0; i < 6; i++) {
                int o = f.schema('o', 0, 0, 0);
                f.field(o, label, inner[i], true);
            }
        }
        int union = -1;
        for (int i = 0; i < 6; i++) {
            int o = f.schema('o', 0, 0, 0);
            for (int label = 0; label < 4; label++) {
                f.field(o, label, first + 6 * label + i, false);
            }
            union = i == 0 ? o : f.schema('u', union, o, 0);
        }
        int whole = f.schema('&', first + 2, first + 11, 0);
        int not = f.schema('!', union, 0, 0);
        int either = f.schema('u', union, not, 0);
        least("deep whole", f, whole, 5);
        gap("deep whole in not", f, whole, not, 0);
        // Each of the six is kept away by a label whose record has not the one range at the one label.
        gap("deep whole in union", f, whole, union, 5);
        least("deep not", f, not, 1);
        gap("all of either", f, whole, either, 0);
    }

    /** Chains of records by the labels 0 and 1: which label is the k-th one from the top, and from the end. */
    private static void words() {
        int[][] forms = {{3, 4}, {12, 9}, {14, 14}, {19, 8}, {8, 20}, {17, 16}};
        for (int[] form : forms) {
            Formwarden f = new Formwarden();
            int z = f.schema('z', 0, 0, 0);
            int word = f.schema('r', 0, 0, 0);
            int zero = fork(f, word, -1);
            int one = fork(f, -1, word);
            f.bind(0, f.schema('u', z, f.schema('u', zero, one, 0), 0));
            int down = one;
            for (int i = 1; i < form[0]; i++) {
                down = fork(f, down, down);
            }
            int fromTop = f.schema('&', down, word, 0);
            int up = z;
            for (int i = 1; i < form[1]; i++) {
                up = fork(f, up, up);
            }
            int end = fork(f, -1, up);
            int name = f.schema('r', 1, 0, 0);
            f.bind(1, f.schema('u', end, fork(f, name, name), 0));
            int fromEnd = f.schema('&', name, word, 0);
            String what = "words " + form[0] + " " + form[1];
            least(what + " from the top", f, fromTop, form[0] + 1);
            least(what + " from the end", f, fromEnd, form[1] + 1);
            gap(what + " top in end", f, fromTop, fromEnd, form[0] + 1);
            gap(what + " end in top", f, fromEnd, fromTop, form[1] + 1);
            gap(what + " all in end", f, word, fromEnd, 1);
            gap(what + " top in all", f, fromTop, word, 0);
            gap(what + " end in all", f, fromEnd, word, 0);
        }
    }

    /** A closed record that may have what is told at the labels 0 and 1. */
    private static int fork(Formwarden f, int atZero, int atOne) {
        int o = f.schema('o', 1, 0, 0);
        f.field(o, 0, atZero, atOne < 0);
        f.field(o, 1, atOne, atZero < 0);
        return o;
    }

    /** Chains whose length is a multiple of several numbers: the smallest one is as long as their product. */
    private static void cycles() {
        int[][] forms = {{2, 3}, {4, 3, 5}, {2, 3, 5, 7}, {3, 4, 5, 7, 11}};
        for (int[] form : forms) {
            Formwarden f = new Formwarden();
            int z = f.schema('z', 0, 0, 0);
            int all = -1;
            int product = 1;
            int last = -1;
            for (int i = 0; i < form.length; i++) {
                int s = f.schema('r', i, 0, 0);
                for (int k = 0; k < form[i]; k++) {
                    int o = f.schema('o', 1, 0, 0);
                    f.field(o, 0, s, true);
                    s = o;
                }
                f.bind(i, f.schema('u', z, s, 0));
                all = i == 0 ? s : f.schema('&', all, s, 0);
                product *= form[i];
                last = s;
            }
            least("cycles " + product, f, all, Math.min(product + 1, 1000));
            gap("cycles in one " + product, f, all, last, 0);
            gap("one in cycles " + product, f, last, all, form[form.length - 1] + 1);
        }
    }

    /** Records of four symbols, and schemas each of which a symbol of three keeps away: twelve can be kept away. */
    private static void manyRivals() {
        for (int count = 11; count <= 15; count++) {
            Formwarden f = new Formwarden();
            int symbol = f.schema('s', 1023, 0, 0);
            int base = f.schema('o', 1, 0, 0);
            for (int label = 0; label < 4; label++) {
                f.field(base, label, symbol, true);
            }
            int union = -1;
            for (int i = 0; i < count; i++) {
                int item = f.schema('s', 1023 & ~(1 << i / 3), 0, 0);
                int o = f.schema('o', 0, 0, 0);
                for (int label = 0; label < 4; label++) {
                    f.field(o, label, item, false);
                }
                union = i == 0 ? o : f.schema('u', union, o, 0);
            }
            gap("rivals " + count, f, base, union, count <= 12 ? 5 : 0);
        }
    }

    /** Joins of a schema with itself, and of each with the two ahead of it, are that schema; so are their contraries. */
    private static void doubled() {
        for (int form = 0; form < 8; form++) {
            boolean covers = form >= 4;
            Formwarden f = new Formwarden();
            int symbol = f.schema('s', 1023, 0, 0);
            int base = f.schema('o', 1, 0, 0);
            int[] items = new int[3];
            for (int i = 0; i < 3; i++) {
                int bits = covers && i == 0 ? 1 << 8 | 1 : 0;
                for (int s = 0; s < 10; s++) {
                    bits |= (s >> i & 1) << s;
                }
                items[i] = f.schema('s', bits, 0, 0);
            }
            int union = -1;
            for (int label = 0; label < 4; label++) {
                f.field(base, label, symbol, true);
                for (int item : items) {
                    int o = f.schema('o', 0, 0, 0);
                    f.field(o, label, item, true);
                    union = union < 0 ? o : f.schema('u', union, o, 0);
                }
            }
            int one = union;
            int two = union;
            for (int i = 0; i < 18; i++) {
                int next = f.schema(form % 2 == 0 ? '&' : 'u', one, form % 4 < 2 ? one : two, 0);
                two = one;
                one = next;
            }
            int not = f.schema('!', one, 0, 0);
            String what = "doubled " + form;
            least(what, f, f.schema('&', base, not, 0), covers ? 0 : 5);
            gap(what + " base in it", f, base, one, covers ? 0 : 5);
            gap(what + " it in the union", f, one, union, 0);
            gap(what + " the union in it", f, union, one, 0);
            gap(what + " base in the contrary", f, base, not, 5);
        }
    }

    /** A meet of contraries in other words, which no value is of, tells nothing of a value that must not be of it. */
    private static void neverMet() {
        Formwarden f = new Formwarden();
        int z = f.schema('z', 0, 0, 0);
        int inner = f.schema('o', 1, 0, 0);
        f.field(inner, 1, z, true);
        int either = f.schema('u', inner, z, 0);
        int open = f.schema('o', 0, 0, 0);
        f.field(open, 1, either, true);
        int outer = f.schema('o', 1, 0, 0);
        f.field(outer, 1, inner, true);
        int not = f.schema('!', open, 0, 0);
        int never = f.schema('&', f.schema('&', not, not, 0), open, 0);
        least("never", f, never, 0);
        gap("not never", f, outer, never, 3);
        gap("not all", f, f.schema('!', never, 0, 0), outer, 1);
    }

    private static void wrong() {
        Formwarden f = new Formwarden();
        f.schema('a', 0, 0, 0);
        for (int bad : new int[] {-1, 1, 50, Integer.MAX_VALUE, Integer.MIN_VALUE}) {
            Check.raises("isEmpty " + bad, IndexOutOfBoundsException.class, () -> f.isEmpty(bad));
            Check.raises("least " + bad, IndexOutOfBoundsException.class, () -> f.least(bad));
            Check.raises("isWithin " + bad, IndexOutOfBoundsException.class, () -> f.isWithin(bad, 0));
            Check.raises("isWithin other " + bad, IndexOutOfBoundsException.class, () -> f.isWithin(0, bad));
            Check.raises("gap " + bad, IndexOutOfBoundsException.class, () -> f.gap(bad, 0));
            Check.raises("gap other " + bad, IndexOutOfBoundsException.class, () -> f.gap(0, bad));
        }
        Check.raises("within itself", NoSuchElementException.class, () -> f.gap(0, 0));
    }
}

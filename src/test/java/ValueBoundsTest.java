import java.util.NoSuchElementException;

/** Each boundary case that the promises 1 to 10 name, and what the terms say of values. */
public final class ValueBoundsTest {
    private static final Class<IndexOutOfBoundsException> INDEX = IndexOutOfBoundsException.class;
    private static final Class<IllegalArgumentException> ARGUMENT = IllegalArgumentException.class;
    private static final Class<UnsupportedOperationException> UNSUPPORTED = UnsupportedOperationException.class;
    private static final Class<IllegalStateException> STATE = IllegalStateException.class;

    private ValueBoundsTest() {
    }

    public static void main(String[] args) {
        newObject();
        twoObjects();
        valueKinds();
        valueRanges();
        valueOfNoMeaning();
        valueFull();
        listLengths();
        listNoSuchValue();
        listGaps();
        listDepth();
        listFull();
        listOrder();
        emptyRecord();
        recordFull();
        withLabels();
        withNoSuch();
        withNoRecord();
        withDepth();
        withFull();
        withOrder();
        sameValues();
        counting();
        kindsAndNumbers();
        parts();
        sizes();
        noSuchValue();
        Check.end("ValueBoundsTest");
    }

    /** Promise 1: without values and schemas. */
    private static void newObject() {
        Formwarden f = new Formwarden();
        Check.due("no values", f.values(), 0);
        Check.due("no schemas", f.schemas(), 0);
        Check.due("no steps", f.clearSteps(), 0);
        Check.due("no samples", f.clearSamples(), 0);
        Check.due("no conflicts", f.conflicts(), 0);
        Check.raises("no faults", INDEX, () -> f.faultAt(0));
        Check.raises("no paths", INDEX, () -> f.pathAt(0));
        Check.raises("no value 0", INDEX, () -> f.kindOf(0));
        Check.raises("no schema 0", INDEX, () -> f.least(0));
        for (int name = 0; name < 6; name++) {
            int s = f.schema('r', name, 0, 0);
            Check.due("name " + name + " is not bound", f.isEmpty(s), true);
            Check.due("name " + name + " was not bound", f.bind(name, f.schema('a', 0, 0, 0)), -1);
        }
    }

    private static void twoObjects() {
        Formwarden f = new Formwarden();
        Formwarden g = new Formwarden();
        f.value('n', 5);
        f.schema('a', 0, 0, 0);
        Check.due("another object has no values", g.values(), 0);
        Check.due("another object has no schemas", g.schemas(), 0);
        Check.due("another object numbers from 0", g.value('n', 6), 0);
    }

    /** Promise 2: IllegalArgumentException if there is no such kind. */
    private static void valueKinds() {
        Formwarden f = new Formwarden();
        for (char kind : "zbns".toCharArray()) {
            Check.due("kind " + kind, Check.answer(() -> f.value(kind, 0)), "zbns".indexOf(kind));
        }
        for (int kind = 0; kind < 300; kind++) {
            char c = (char) kind;
            if ("zbns".indexOf(c) < 0) {
                State.raises("kind " + kind, f, ARGUMENT, () -> f.value(c, 0));
            }
        }
        State.raises("the last sign", f, ARGUMENT, () -> f.value(Character.MAX_VALUE, 0));
    }

    /** Promise 2: 0 or 1 for a truth, -99 to 99, or 0 to 9; IllegalArgumentException if the number is out of range. */
    private static void valueRanges() {
        int[][] ranges = {{'b', 0, 1}, {'n', -99, 99}, {'s', 0, 9}};
        for (int[] range : ranges) {
            Formwarden f = new Formwarden();
            char kind = (char) range[0];
            for (int n = range[1]; n <= range[2]; n++) {
                Check.due(kind + " " + n, f.value(kind, n), n - range[1]);
                Check.due(kind + " number " + n, f.numberOf(n - range[1]), n);
            }
            int[] bad = {range[1] - 1, range[2] + 1, Integer.MIN_VALUE, Integer.MAX_VALUE, 1 << 16, 256};
            for (int n : bad) {
                State.raises(kind + " " + n, f, ARGUMENT, () -> f.value(kind, n));
            }
        }
    }

    /** Promise 2: the number is of no meaning for nothing. */
    private static void valueOfNoMeaning() {
        Formwarden f = new Formwarden();
        for (int n : new int[] {0, 1, -1, 100, -100, Integer.MIN_VALUE, Integer.MAX_VALUE}) {
            Check.due("nothing " + n, f.value('z', n), 0);
        }
        Check.due("nothing is one value", f.values(), 1);
        Check.due("its number", f.numberOf(0), 0);
    }

    /** The numbers -99 to 99 and one more value: 200. */
    private static Formwarden filled(int last) {
        Formwarden f = new Formwarden();
        for (int n = -99; n <= 99; n++) {
            f.value('n', n);
        }
        if (last == 1) {
            f.record();
        }
        return f;
    }

    /** Promise 2: IllegalStateException if there are 200 values, and this is none of them. */
    private static void valueFull() {
        Formwarden f = filled(0);
        Check.due("199 values", f.values(), 199);
        Check.due("the 200th", f.value('s', 9), 199);
        Check.due("200 values", f.values(), 200);
        State.raises("the 201st", f, STATE, () -> f.value('s', 8));
        State.raises("the 201st, nothing", f, STATE, () -> f.value('z', 0));
        State.raises("the 201st, a truth", f, STATE, () -> f.value('b', 1));
        Check.due("one of the 200, the first", f.value('n', -99), 0);
        Check.due("one of the 200, the last", f.value('s', 9), 199);
        State.raises("out of range and full", f, ARGUMENT, () -> f.value('n', 100));
        State.raises("no such kind and full", f, ARGUMENT, () -> f.value('l', 0));
    }

    /** Promise 3 and terms: lists of 0 to 4 values. */
    private static void listLengths() {
        Formwarden f = new Formwarden();
        int n = f.value('n', 1);
        int[] lists = {f.list(-1, -1, -1, -1), f.list(n, -1, -1, -1), f.list(n, n, -1, -1), f.list(n, n, n, -1), f.list(n, n, n, n)};
        for (int length = 0; length <= 4; length++) {
            Check.due("list of " + length, lists[length], length + 1);
            Check.due("length " + length, f.numberOf(lists[length]), length);
            Check.due("size of " + length, f.size(lists[length]), length + 1);
        }
    }

    /** Promise 3: IndexOutOfBoundsException if there is no such value, for one that is told. */
    private static void listNoSuchValue() {
        Formwarden f = new Formwarden();
        int n = f.value('n', 1);
        for (int bad : new int[] {1, -2, 200, 201, 400, Integer.MAX_VALUE, Integer.MIN_VALUE}) {
            State.raises("first " + bad, f, INDEX, () -> f.list(bad, -1, -1, -1));
            State.raises("second " + bad, f, INDEX, () -> f.list(n, bad, -1, -1));
            State.raises("third " + bad, f, INDEX, () -> f.list(n, n, bad, -1));
            State.raises("fourth " + bad, f, INDEX, () -> f.list(n, n, n, bad));
        }
    }

    /** Promise 3: IllegalArgumentException if -1 is told ahead of a part. */
    private static void listGaps() {
        Formwarden f = new Formwarden();
        int n = f.value('n', 1);
        for (int told = 0; told < 16; told++) {
            int[] p = new int[4];
            for (int i = 0; i < 4; i++) {
                p[i] = (told >> i & 1) == 1 ? n : -1;
            }
            boolean isGap = (told & told + 1) != 0;
            if (isGap) {
                State.raises("gap " + told, f, ARGUMENT, () -> f.list(p[0], p[1], p[2], p[3]));
            } else {
                Check.due("no gap " + told, f.numberOf(f.list(p[0], p[1], p[2], p[3])), Integer.bitCount(told));
            }
        }
    }

    /** Nested lists so deep; a leaf is 1 deep. */
    private static int nested(Formwarden f, int depth) {
        int deep = f.list(-1, -1, -1, -1);
        for (int i = 1; i < depth; i++) {
            deep = f.list(deep, -1, -1, -1);
        }
        return deep;
    }

    /** Promise 3: UnsupportedOperationException if it would be too deep: the depth is at most 6. */
    private static void listDepth() {
        Formwarden f = new Formwarden();
        int five = nested(f, 5);
        int n = f.value('n', 1);
        int six = f.list(five, -1, -1, -1);
        Check.due("depth 6", f.size(six), 6);
        State.raises("depth 7 first", f, UNSUPPORTED, () -> f.list(six, -1, -1, -1));
        State.raises("depth 7 second", f, UNSUPPORTED, () -> f.list(n, six, -1, -1));
        State.raises("depth 7 third", f, UNSUPPORTED, () -> f.list(n, n, six, -1));
        State.raises("depth 7 fourth", f, UNSUPPORTED, () -> f.list(n, n, n, six));
        Check.due("the greatest part counts", f.size(f.list(n, five, n, -1)), 8);
        int record = f.with(f.record(), 3, five);
        State.raises("depth 7 of a record", f, UNSUPPORTED, () -> f.list(record, -1, -1, -1));
    }

    /** Promise 3: IllegalStateException if there are 200 values, and this is none of them. */
    private static void listFull() {
        Formwarden f = filled(0);
        int pair = f.list(0, 1, -1, -1);
        Check.due("the 200th", pair, 199);
        State.raises("the 201st", f, STATE, () -> f.list(1, 0, -1, -1));
        State.raises("the 201st, empty", f, STATE, () -> f.list(-1, -1, -1, -1));
        Check.due("one of the 200", f.list(0, 1, -1, -1), pair);
    }

    /** Promise 3: the exception listed first is thrown. */
    private static void listOrder() {
        Formwarden f = new Formwarden();
        int six = nested(f, 6);
        State.raises("no such value, behind a gap", f, INDEX, () -> f.list(-1, 77, -1, -1));
        State.raises("no such value, and too deep", f, INDEX, () -> f.list(six, 77, -1, -1));
        State.raises("a gap, and too deep", f, ARGUMENT, () -> f.list(-1, six, -1, -1));
        for (int n = 0; f.values() < 200; n++) {
            f.value('n', n % 199 - 99);
        }
        State.raises("no such value, and full", f, INDEX, () -> f.list(200, -1, -1, -1));
        State.raises("a gap, and full", f, ARGUMENT, () -> f.list(-1, 0, -1, -1));
        State.raises("too deep, and full", f, UNSUPPORTED, () -> f.list(six, -1, -1, -1));
        State.raises("full", f, STATE, () -> f.list(0, 0, 0, 0));
    }

    /** Promise 4: a record without labels. */
    private static void emptyRecord() {
        Formwarden f = new Formwarden();
        int r = f.record();
        Check.due("record", r, 0);
        Check.due("no labels", f.numberOf(r), 0);
        Check.due("size", f.size(r), 1);
        Check.due("the same one", f.record(), r);
        Check.due("not the empty list", f.list(-1, -1, -1, -1), 1);
    }

    /** Promise 4: IllegalStateException if there are 200 values, and this is none of them. */
    private static void recordFull() {
        Formwarden f = filled(0);
        Check.due("the 200th", f.record(), 199);
        Check.due("one of the 200", f.record(), 199);
        Formwarden g = filled(0);
        g.value('z', 0);
        State.raises("the 201st", g, STATE, () -> g.record());
    }

    /** Promise 5: labels 0 to 3; -1 for none. */
    private static void withLabels() {
        Formwarden f = new Formwarden();
        int r = f.record();
        int n = f.value('n', 1);
        for (int label = 0; label < 4; label++) {
            int made = f.with(r, label, n);
            Check.due("label " + label, f.numberOf(made), 1 << label);
            Check.due("what is at " + label, f.part(made, label), n);
            Check.due("without " + label, f.with(made, label, -1), r);
            Check.due("without what is not there " + label, f.with(r, label, -1), r);
        }
        int all = f.with(f.with(f.with(f.with(r, 3, n), 2, r), 1, n), 0, r);
        Check.due("all labels", f.numberOf(all), 15);
        Check.due("otherwise what the other one has", f.part(f.with(all, 2, n), 0), r);
        Check.due("the other one stays", f.part(all, 2), r);
    }

    /** Promise 5: IndexOutOfBoundsException if there is no such value, for either, or label. */
    private static void withNoSuch() {
        Formwarden f = new Formwarden();
        int r = f.record();
        for (int bad : new int[] {1, -1, -2, 200, 300, Integer.MAX_VALUE, Integer.MIN_VALUE}) {
            State.raises("record " + bad, f, INDEX, () -> f.with(bad, 0, r));
            if (bad != -1) {
                State.raises("value " + bad, f, INDEX, () -> f.with(r, 0, bad));
            }
        }
        for (int bad : new int[] {-1, 4, 5, Integer.MAX_VALUE, Integer.MIN_VALUE}) {
            State.raises("label " + bad, f, INDEX, () -> f.with(r, bad, r));
            State.raises("label " + bad + " for none", f, INDEX, () -> f.with(r, bad, -1));
        }
    }

    /** Promise 5: IllegalArgumentException if the other one is no record. */
    private static void withNoRecord() {
        Formwarden f = new Formwarden();
        int[] others = {f.value('z', 0), f.value('b', 1), f.value('n', 3), f.value('s', 2), f.list(0, 1, -1, -1)};
        for (int other : others) {
            State.raises("no record " + other, f, ARGUMENT, () -> f.with(other, 0, 0));
            State.raises("no record, for none " + other, f, ARGUMENT, () -> f.with(other, 0, -1));
        }
    }

    /** Promise 5: UnsupportedOperationException if it would be too deep. */
    private static void withDepth() {
        Formwarden f = new Formwarden();
        int r = f.record();
        int five = nested(f, 5);
        int six = f.list(five, -1, -1, -1);
        Check.due("depth 6", f.size(f.with(r, 2, five)), 6);
        for (int label = 0; label < 4; label++) {
            int at = label;
            State.raises("depth 7 at " + label, f, UNSUPPORTED, () -> f.with(r, at, six));
        }
        int deepest = f.with(r, 1, five);
        Check.due("what is deep can go", f.with(deepest, 1, r), f.with(r, 1, r));
    }

    /** Promise 5: IllegalStateException if there are 200 values, and this is none of them. */
    private static void withFull() {
        Formwarden f = filled(1);
        int r = 199;
        State.raises("the 201st", f, STATE, () -> f.with(r, 0, 0));
        Check.due("one of the 200", f.with(r, 0, -1), r);
        Formwarden g = new Formwarden();
        int empty = g.record();
        for (int n = -99; n < 99; n++) {
            g.value('n', n);
        }
        Check.due("199 values", g.values(), 199);
        int last = g.with(empty, 3, 1);
        Check.due("the 200th", last, 199);
        Check.due("one of the 200, again", g.with(empty, 3, 1), last);
        State.raises("the 201st, again", g, STATE, () -> g.with(last, 2, 1));
    }

    /** Promise 5: the exception listed first is thrown. */
    private static void withOrder() {
        Formwarden f = new Formwarden();
        int n = f.value('n', 1);
        int six = nested(f, 6);
        int r = f.record();
        State.raises("no such label of no record", f, INDEX, () -> f.with(n, 4, n));
        State.raises("no such value for no record", f, INDEX, () -> f.with(n, 0, 99));
        State.raises("no such label, and too deep", f, INDEX, () -> f.with(r, 4, six));
        State.raises("no record, and too deep", f, ARGUMENT, () -> f.with(n, 0, six));
        for (int i = 0; f.values() < 200; i++) {
            f.value('n', i % 199 - 99);
        }
        State.raises("no such value, and full", f, INDEX, () -> f.with(r, 0, 200));
        State.raises("no record, and full", f, ARGUMENT, () -> f.with(n, 0, n));
        State.raises("too deep, and full", f, UNSUPPORTED, () -> f.with(r, 0, six));
        State.raises("full", f, STATE, () -> f.with(r, 0, n));
    }

    /** Terms: two that are the same have one number. */
    private static void sameValues() {
        Formwarden f = new Formwarden();
        int n = f.value('n', 0);
        int s = f.value('s', 0);
        int b = f.value('b', 0);
        int z = f.value('z', 0);
        int l = f.list(-1, -1, -1, -1);
        int o = f.record();
        Check.due("all are other ones", f.values(), 6);
        Check.due("numbers", f.value('n', 0), n);
        Check.due("symbols", f.value('s', 0), s);
        Check.due("truths", f.value('b', 0), b);
        Check.due("nothing", f.value('z', 0), z);
        Check.due("lists", f.list(-1, -1, -1, -1), l);
        Check.due("records", f.record(), o);
        int one = f.list(n, s, -1, -1);
        Check.due("lists with parts", f.list(n, s, -1, -1), one);
        Check.due("lists in another order", f.list(s, n, -1, -1), one + 1);
        int two = f.with(f.with(o, 0, n), 1, s);
        Check.due("records made in another order", f.with(f.with(o, 1, s), 0, n), two);
        int deep = f.list(one, two, -1, -1);
        Check.due("deep ones", f.list(f.list(n, s, -1, -1), f.with(f.with(o, 1, s), 0, n), -1, -1), deep);
    }

    /** Promise 6: the number of values. */
    private static void counting() {
        Formwarden f = new Formwarden();
        for (int n = 0; n < 100; n++) {
            f.value('n', n);
            f.value('n', n);
            Check.due("values", f.values(), n + 1);
        }
        for (int n = -99; n < 0; n++) {
            f.value('n', n);
        }
        f.record();
        Check.due("200 values", f.values(), 200);
    }

    /** Promises 7 and 8: kinds and numbers. */
    private static void kindsAndNumbers() {
        Formwarden f = new Formwarden();
        int n = f.value('n', -99);
        Object[][] all = {{n, 'n', -99}, {f.value('n', 99), 'n', 99}, {f.value('s', 0), 's', 0}, {f.value('s', 9), 's', 9},
            {f.value('b', 0), 'b', 0}, {f.value('b', 1), 'b', 1}, {f.value('z', 5), 'z', 0}, {f.list(-1, -1, -1, -1), 'l', 0},
            {f.list(n, n, n, n), 'l', 4}, {f.record(), 'o', 0}, {f.with(f.record(), 0, n), 'o', 1},
            {f.with(f.record(), 3, n), 'o', 8}, {f.with(f.with(f.record(), 3, n), 1, n), 'o', 10}};
        for (Object[] one : all) {
            Check.due("kind of " + one[0], f.kindOf((Integer) one[0]), one[1]);
            Check.due("number of " + one[0], f.numberOf((Integer) one[0]), one[2]);
        }
    }

    /** Promise 9: NoSuchElementException if it has no such part. */
    private static void parts() {
        Formwarden f = new Formwarden();
        int z = f.value('z', 0);
        int n = f.value('n', 7);
        int list = f.list(z, n, -1, -1);
        int full = f.list(n, n, n, z);
        int record = f.with(f.with(f.record(), 0, n), 2, list);
        Check.due("first part", f.part(list, 0), z);
        Check.due("last part", f.part(list, 1), n);
        Check.due("fourth part", f.part(full, 3), z);
        Check.due("label 0", f.part(record, 0), n);
        Check.due("label 2", f.part(record, 2), list);
        int[][] none = {{list, 2}, {list, -1}, {full, 4}, {record, 1}, {record, 3}, {record, 4}, {record, -1}, {z, 0}, {n, 0},
            {f.record(), 0}, {f.list(-1, -1, -1, -1), 0}, {list, Integer.MAX_VALUE}, {list, Integer.MIN_VALUE},
            {record, Integer.MAX_VALUE}, {record, Integer.MIN_VALUE}};
        for (int[] p : none) {
            State.raises("part " + p[0] + " " + p[1], f, NoSuchElementException.class, () -> f.part(p[0], p[1]));
        }
        State.raises("no such value, and no such part", f, INDEX, () -> f.part(99, 9));
    }

    /** Promise 10 and terms: the size is 1 and the sizes of the parts, each time that it is a part. */
    private static void sizes() {
        Formwarden f = new Formwarden();
        int v = f.value('b', 1);
        int size = 1;
        for (int i = 0; i < 5; i++) {
            v = f.list(v, v, v, v);
            size = 1 + 4 * size;
            Check.due("size at depth " + (i + 2), f.size(v), size);
        }
        Check.due("the greatest size", size, 1365);
        int w = f.record();
        for (int i = 0; i < 5; i++) {
            w = f.with(f.with(f.record(), 0, w), 3, w);
        }
        Check.due("records", f.size(w), 63);
    }

    /** Promises 7 to 10: IndexOutOfBoundsException if there is no such value. */
    private static void noSuchValue() {
        Formwarden f = filled(1);
        Check.due("the last one has a kind", f.kindOf(199), 'o');
        Formwarden g = new Formwarden();
        g.value('n', 1);
        g.value('n', 2);
        for (int bad : new int[] {2, -1, 199, 200, 201, 599, 600, Integer.MAX_VALUE, Integer.MIN_VALUE}) {
            State.raises("kindOf " + bad, g, INDEX, () -> g.kindOf(bad));
            State.raises("numberOf " + bad, g, INDEX, () -> g.numberOf(bad));
            State.raises("part " + bad, g, INDEX, () -> g.part(bad, 0));
            State.raises("size " + bad, g, INDEX, () -> g.size(bad));
        }
        for (int bad : new int[] {200, 201, -1, 300}) {
            Check.raises("kindOf of 200, " + bad, INDEX, () -> f.kindOf(bad));
            Check.raises("numberOf of 200, " + bad, INDEX, () -> f.numberOf(bad));
            Check.raises("part of 200, " + bad, INDEX, () -> f.part(bad, 0));
            Check.raises("size of 200, " + bad, INDEX, () -> f.size(bad));
        }
    }
}

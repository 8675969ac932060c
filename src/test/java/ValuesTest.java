/** Promises 1 to 10: a new object, and values. */
public final class ValuesTest {
    private ValuesTest() {
    }

    public static void main(String[] args) {
        newObject();
        leaves();
        lists();
        records();
        depth();
        full();
        asking();
        Check.end("ValuesTest");
    }

    private static void newObject() {
        Formwarden f = new Formwarden();
        Check.due("values of a new object", f.values(), 0);
        Check.due("schemas of a new object", f.schemas(), 0);
        Check.due("conflicts of a new object", f.conflicts(), 0);
        Check.due("steps of a new object", f.clearSteps(), 0);
        Check.due("samples of a new object", f.clearSamples(), 0);
        Check.raises("faultAt of a new object", IndexOutOfBoundsException.class, () -> f.faultAt(0));
        Check.raises("pathAt of a new object", IndexOutOfBoundsException.class, () -> f.pathAt(0));
    }

    private static void leaves() {
        Formwarden f = new Formwarden();
        Check.due("nothing", f.value('z', 77), 0);
        Check.due("nothing again", f.value('z', -5), 0);
        Check.due("false", f.value('b', 0), 1);
        Check.due("true", f.value('b', 1), 2);
        Check.due("least number", f.value('n', -99), 3);
        Check.due("greatest number", f.value('n', 99), 4);
        Check.due("number 0", f.value('n', 0), 5);
        Check.due("symbol 0", f.value('s', 0), 6);
        Check.due("symbol 9", f.value('s', 9), 7);
        Check.due("number again", f.value('n', 99), 4);
        for (int[] bad : new int[][] {{'b', 2}, {'b', -1}, {'n', 100}, {'n', -100}, {'s', 10}, {'s', -1}, {'l', 0},
            {'o', 0}, {'q', 0}, {0, 0}, {'n', Integer.MIN_VALUE}, {'s', Integer.MAX_VALUE}}) {
            Check.raises("value " + (char) bad[0] + bad[1], IllegalArgumentException.class,
                    () -> f.value((char) bad[0], bad[1]));
        }
        Check.due("values", f.values(), 8);
    }

    private static void lists() {
        Formwarden f = new Formwarden();
        int n = f.value('n', 4);
        int empty = f.list(-1, -1, -1, -1);
        Check.due("empty list", empty, 1);
        Check.due("list", f.list(n, empty, n, n), 2);
        Check.due("list again", f.list(n, empty, n, n), 2);
        Check.due("other order", f.list(empty, n, n, n), 3);
        Check.due("shorter", f.list(n, empty, n, -1), 4);
        Check.raises("gap", IllegalArgumentException.class, () -> f.list(-1, n, -1, -1));
        Check.raises("gap in the middle", IllegalArgumentException.class, () -> f.list(n, -1, -1, n));
        Check.raises("no such first", IndexOutOfBoundsException.class, () -> f.list(5, -1, -1, -1));
        Check.raises("no such last", IndexOutOfBoundsException.class, () -> f.list(n, n, n, 5));
        Check.raises("below -1", IndexOutOfBoundsException.class, () -> f.list(n, -2, -1, -1));
        Check.raises("no such value ahead of a gap", IndexOutOfBoundsException.class, () -> f.list(-1, 9, -1, -1));
        Check.due("values", f.values(), 5);
    }

    private static void records() {
        Formwarden f = new Formwarden();
        int r = f.record();
        Check.due("record", r, 0);
        Check.due("record again", f.record(), 0);
        int n = f.value('n', 1);
        int one = f.with(r, 3, n);
        Check.due("with", one, 2);
        Check.due("with again", f.with(r, 3, n), 2);
        Check.due("with the same", f.with(one, 3, n), 2);
        Check.due("without", f.with(one, 3, -1), r);
        Check.due("without what is not there", f.with(r, 0, -1), r);
        int two = f.with(one, 0, one);
        Check.due("with a record", two, 3);
        Check.due("with another value", f.with(two, 3, r), 4);
        Check.due("the first is as it was", f.part(two, 3), n);
        Check.raises("no record", IllegalArgumentException.class, () -> f.with(n, 0, n));
        Check.raises("no such record", IndexOutOfBoundsException.class, () -> f.with(9, 0, n));
        Check.raises("no such record -1", IndexOutOfBoundsException.class, () -> f.with(-1, 0, n));
        Check.raises("no such value", IndexOutOfBoundsException.class, () -> f.with(r, 0, 5));
        Check.raises("no such value -2", IndexOutOfBoundsException.class, () -> f.with(r, 0, -2));
        Check.raises("no such label", IndexOutOfBoundsException.class, () -> f.with(r, 4, n));
        Check.raises("no such label -1", IndexOutOfBoundsException.class, () -> f.with(r, -1, n));
        Check.raises("no such label of no record", IndexOutOfBoundsException.class, () -> f.with(n, 4, n));
        Check.due("values", f.values(), 5);
    }

    private static void depth() {
        Formwarden f = new Formwarden();
        int deep = f.value('n', 1);
        for (int i = 0; i < 5; i++) {
            deep = i % 2 == 0 ? f.list(deep, deep, deep, deep) : f.with(f.record(), i % 4, deep);
        }
        int deepest = deep;
        int count = f.values();
        Check.raises("list too deep", UnsupportedOperationException.class, () -> f.list(deepest, -1, -1, -1));
        Check.raises("record too deep", UnsupportedOperationException.class, () -> f.with(f.record(), 0, deepest));
        Check.due("values", f.values(), count);
        Check.due("size", f.size(deepest), 1 + 4 * (1 + 1 + 4 * (1 + 1 + 4)));
    }

    private static void full() {
        Formwarden f = new Formwarden();
        for (int n = -99; n <= 99; n++) {
            f.value('n', n);
        }
        int r = f.record();
        Check.due("values", f.values(), 200);
        Check.due("value that is there", f.value('n', -99), 0);
        Check.due("record that is there", f.record(), r);
        Check.due("with that is there", f.with(r, 0, -1), r);
        Check.raises("value that is not", IllegalStateException.class, () -> f.value('z', 0));
        Check.raises("no such value", IllegalArgumentException.class, () -> f.value('b', 2));
        Check.raises("list", IllegalStateException.class, () -> f.list(0, -1, -1, -1));
        Check.raises("gap", IllegalArgumentException.class, () -> f.list(-1, 0, -1, -1));
        Check.raises("with", IllegalStateException.class, () -> f.with(r, 0, 0));
        Check.due("values", f.values(), 200);
        Formwarden g = new Formwarden();
        int deep = g.list(-1, -1, -1, -1);
        for (int i = 0; i < 5; i++) {
            deep = g.list(deep, -1, -1, -1);
        }
        int deepest = deep;
        for (int n = 0; g.values() < 200; n++) {
            g.value('n', n % 199 - 99);
        }
        Check.raises("record", IllegalStateException.class, () -> g.record());
        Check.raises("too deep ahead of full", UnsupportedOperationException.class, () -> g.list(deepest, -1, -1, -1));
    }

    private static void asking() {
        Formwarden f = new Formwarden();
        int[] v = {f.value('z', 3), f.value('b', 0), f.value('b', 1), f.value('n', -7), f.value('s', 8),
            f.list(0, 3, 3, -1), f.record(), f.with(6, 1, 5), f.with(7, 3, 6)};
        String kinds = "zbbnslooo";
        int[] numbers = {0, 0, 1, -7, 8, 3, 0, 2, 10};
        int[] sizes = {1, 1, 1, 1, 1, 4, 1, 5, 6};
        for (int i = 0; i < v.length; i++) {
            Check.due("kindOf " + i, f.kindOf(i), kinds.charAt(i));
            Check.due("numberOf " + i, f.numberOf(i), numbers[i]);
            Check.due("size " + i, f.size(i), sizes[i]);
        }
        Check.due("part 0", f.part(5, 0), 0);
        Check.due("part 2", f.part(5, 2), 3);
        Check.due("label 1", f.part(8, 1), 5);
        Check.due("label 3", f.part(8, 3), 6);
        for (int[] bad : new int[][] {{5, 3}, {5, -1}, {5, 4}, {8, 0}, {8, 4}, {8, -1}, {0, 0}, {4, 0}, {6, 0},
            {5, Integer.MAX_VALUE}, {8, Integer.MIN_VALUE}}) {
            Check.raises("part " + bad[0] + " " + bad[1], java.util.NoSuchElementException.class,
                    () -> f.part(bad[0], bad[1]));
        }
        for (int bad : new int[] {-1, 9, 200, 250, Integer.MAX_VALUE, Integer.MIN_VALUE}) {
            Check.raises("kindOf " + bad, IndexOutOfBoundsException.class, () -> f.kindOf(bad));
            Check.raises("numberOf " + bad, IndexOutOfBoundsException.class, () -> f.numberOf(bad));
            Check.raises("size " + bad, IndexOutOfBoundsException.class, () -> f.size(bad));
            Check.raises("part " + bad, IndexOutOfBoundsException.class, () -> f.part(bad, 0));
        }
        Check.due("values", f.values(), 9);
    }
}

/** Each boundary case that the promises 23 to 32, 34 and 35 name, and what the terms say of views, merging and samples. */
public final class ViewBoundsTest {
    private static final Class<IndexOutOfBoundsException> INDEX = IndexOutOfBoundsException.class;
    private static final Class<IllegalArgumentException> ARGUMENT = IllegalArgumentException.class;
    private static final Class<UnsupportedOperationException> UNSUPPORTED = UnsupportedOperationException.class;
    private static final Class<IllegalStateException> STATE = IllegalStateException.class;

    private final Formwarden f = new Formwarden();
    private final int empty = f.record();
    private final int n = f.value('n', 1);
    private final int s2 = f.value('s', 2);

    private ViewBoundsTest() {
    }

    public static void main(String[] args) {
        new ViewBoundsTest().stepKinds();
        new ViewBoundsTest().stepLabels();
        new ViewBoundsTest().stepOfNoMeaning();
        new ViewBoundsTest().stepValues();
        new ViewBoundsTest().stepFull();
        new ViewBoundsTest().clearing();
        new ViewBoundsTest().noSuchValue();
        new ViewBoundsTest().noRecord();
        new ViewBoundsTest().withoutSteps();
        new ViewBoundsTest().eightSteps();
        new ViewBoundsTest().eachStepForRecords();
        new ViewBoundsTest().moves();
        new ViewBoundsTest().drops();
        new ViewBoundsTest().adds();
        new ViewBoundsTest().nests();
        new ViewBoundsTest().wraps();
        new ViewBoundsTest().swaps();
        new ViewBoundsTest().depths();
        new ViewBoundsTest().madeNew();
        new ViewBoundsTest().madeDeep();
        valueZero();
        viewFull();
        new ViewBoundsTest().mergeNoSuch();
        new ViewBoundsTest().merges();
        new ViewBoundsTest().mergesDeep();
        new ViewBoundsTest().mergedNew();
        new ViewBoundsTest().conflicting();
        mergeFull();
        new ViewBoundsTest().samples();
        new ViewBoundsTest().fitting();
        inferring();
        inferFull();
        shares();
        means();
        Check.end("ViewBoundsTest");
    }

    /** A record with a value, or -1 for none, at each label. */
    private int rec(int... parts) {
        int made = empty;
        for (int i = 0; i < parts.length; i++) {
            made = f.with(made, i, parts[i]);
        }
        return made;
    }

    private int list(int part) {
        return f.list(part, -1, -1, -1);
    }

    private void lens(char kind, int a, int b) {
        f.clearSteps();
        f.step(kind, a, b);
    }

    private void both(String what, int record, int view) {
        Check.due(what + ", got", f.get(record), view);
        Check.due(what + ", put", f.put(record, view), record);
    }

    private void noGet(String what, int record) {
        State.raises(what + ", got", f, UNSUPPORTED, () -> f.get(record));
        State.raises(what + ", put", f, UNSUPPORTED, () -> f.put(record, empty));
    }

    private void noPut(String what, int record, int view) {
        State.raises(what + ", put", f, UNSUPPORTED, () -> f.put(record, view));
    }

    /** Promise 23: IllegalArgumentException if there is no such kind. */
    private void stepKinds() {
        for (int kind = 0; kind < 300; kind++) {
            char c = (char) kind;
            if ("rdanws".indexOf(c) < 0) {
                State.raises("kind " + kind, f, ARGUMENT, () -> f.step(c, 0, 1));
            }
        }
        Check.due("no step was added", f.clearSteps(), 0);
        String kinds = "rdanws";
        for (int i = 0; i < 6; i++) {
            Check.due("kind " + kinds.charAt(i), f.step(kinds.charAt(i), 0, 1), i + 1);
        }
    }

    /** Promise 23: IllegalArgumentException if there is no such label or symbol, or both labels are the same. */
    private void stepLabels() {
        int[] bad = {-1, 4, Integer.MAX_VALUE, Integer.MIN_VALUE};
        for (char kind : "rdanws".toCharArray()) {
            for (int a : bad) {
                State.raises(kind + " label " + a, f, ARGUMENT, () -> f.step(kind, a, 1));
            }
        }
        for (char kind : "rn".toCharArray()) {
            for (int b : bad) {
                State.raises(kind + " second label " + b, f, ARGUMENT, () -> f.step(kind, 1, b));
            }
            for (int label = 0; label < 4; label++) {
                int same = label;
                State.raises(kind + " both labels " + label, f, ARGUMENT, () -> f.step(kind, same, same));
            }
        }
        for (int b : new int[] {-1, 10, Integer.MAX_VALUE, Integer.MIN_VALUE}) {
            State.raises("symbol " + b, f, ARGUMENT, () -> f.step('s', 0, b));
        }
        Check.due("no step was added", f.clearSteps(), 0);
        Check.due("labels 0 and 3", f.step('r', 0, 3), 1);
        Check.due("labels 3 and 0", f.step('n', 3, 0), 2);
        Check.due("symbol 0", f.step('s', 0, 0), 3);
        Check.due("symbol 9", f.step('s', 3, 9), 4);
    }

    /** Promise 23: of no meaning otherwise. */
    private void stepOfNoMeaning() {
        int count = 0;
        for (int b : new int[] {-1, 4, Integer.MAX_VALUE, Integer.MIN_VALUE}) {
            count += 2;
            Check.due("d " + b, f.step('d', 0, b), count - 1);
            Check.due("w " + b, f.step('w', 3, b), count);
        }
    }

    /** Promise 23: IndexOutOfBoundsException if there is no such value. */
    private void stepValues() {
        for (int bad : new int[] {3, -1, 199, 200, 201, Integer.MAX_VALUE, Integer.MIN_VALUE}) {
            State.raises("value " + bad, f, INDEX, () -> f.step('a', 0, bad));
            State.raises("no such label, and no such value " + bad, f, ARGUMENT, () -> f.step('a', 4, bad));
        }
        Check.due("no step was added", f.clearSteps(), 0);
        Check.due("the first value", f.step('a', 0, 0), 1);
        Check.due("the last value", f.step('a', 0, 2), 2);
    }

    /** Promise 23: IllegalStateException if there are 8 steps. */
    private void stepFull() {
        for (int i = 1; i <= 8; i++) {
            Check.due("step " + i, f.step('d', 3, 0), i);
        }
        for (char kind : "rdanws".toCharArray()) {
            State.raises("the 9th " + kind, f, STATE, () -> f.step(kind, 0, 1));
        }
        State.raises("the 9th, of no kind", f, ARGUMENT, () -> f.step('x', 0, 1));
        State.raises("the 9th, of no label", f, ARGUMENT, () -> f.step('d', 4, 1));
        State.raises("the 9th, of no value", f, INDEX, () -> f.step('a', 0, 77));
        Check.due("8 steps", f.clearSteps(), 8);
        Check.due("the first again", f.step('d', 3, 0), 1);
    }

    /** Promise 24: how many there were. */
    private void clearing() {
        Check.due("none", f.clearSteps(), 0);
        for (int count = 1; count <= 8; count++) {
            for (int i = 0; i < count; i++) {
                f.step('w', 0, 0);
            }
            Check.due("so many", f.clearSteps(), count);
            Check.due("none any more", f.clearSteps(), 0);
            Check.due("a view without steps", f.get(rec(n)), rec(n));
        }
    }

    /** Promises 25 and 26: IndexOutOfBoundsException if there is no such value. */
    private void noSuchValue() {
        f.step('d', 0, 0);
        for (int bad : new int[] {3, -1, 199, 200, 201, 599, Integer.MAX_VALUE, Integer.MIN_VALUE}) {
            State.raises("get " + bad, f, INDEX, () -> f.get(bad));
            State.raises("put " + bad, f, INDEX, () -> f.put(bad, empty));
            State.raises("put, view " + bad, f, INDEX, () -> f.put(empty, bad));
            State.raises("put of no record, view " + bad, f, INDEX, () -> f.put(n, bad));
            State.raises("put " + bad + ", view that is no record", f, INDEX, () -> f.put(bad, n));
        }
    }

    /** Promises 25 and 26: UnsupportedOperationException if one is no record. */
    private void noRecord() {
        int[] none = {n, s2, f.value('z', 0), f.value('b', 0), f.list(empty, -1, -1, -1), f.list(-1, -1, -1, -1)};
        for (int steps = 0; steps < 2; steps++) {
            for (int v : none) {
                State.raises("get of no record " + v, f, UNSUPPORTED, () -> f.get(v));
                State.raises("put of no record " + v, f, UNSUPPORTED, () -> f.put(v, empty));
                State.raises("put with a view that is none " + v, f, UNSUPPORTED, () -> f.put(empty, v));
                State.raises("put of none with none " + v, f, UNSUPPORTED, () -> f.put(v, v));
            }
            f.step('d', 0, 0);
        }
    }

    private void withoutSteps() {
        both("the empty record", empty, empty);
        both("a record", rec(n, s2), rec(n, s2));
        Check.due("another view", f.put(rec(n, s2), rec(s2)), rec(s2));
    }

    /** Terms: a row of at most 8 steps, done from the first one on and undone from the last one on. */
    private void eightSteps() {
        int[] order = {0, 1, 2, 3, 0, 1, 2, 3};
        for (int i = 0; i < 8; i++) {
            Check.due("step", f.step('r', order[i], (order[i] + 1) % 4), i + 1);
        }
        both("twice round", rec(n), rec(n));
        noGet("the next label is taken", rec(n, s2));
        f.clearSteps();
        for (int i = 0; i < 5; i++) {
            f.step('w', 0, 0);
        }
        int wrapped = n;
        for (int i = 0; i < 4; i++) {
            wrapped = list(wrapped);
        }
        noGet("five times wrapped is too deep", rec(n));
        f.clearSteps();
        for (int i = 0; i < 4; i++) {
            f.step('w', 0, 0);
        }
        both("four times wrapped", rec(n), rec(wrapped));
    }

    /** Terms: a step that does not fit has no view. */
    private void eachStepForRecords() {
        f.step('r', 0, 1);
        f.step('r', 0, 1);
        noGet("the second one finds the label taken", rec(n));
        both("nothing to move", empty, empty);
        f.clearSteps();
        f.step('d', 1, 0);
        f.step('r', 0, 1);
        both("made way for", rec(n, s2), rec(-1, n));
    }

    /** Terms: 'r'; nothing must be at the label b whether something is at a or not. */
    private void moves() {
        for (int a = 0; a < 4; a++) {
            for (int b = 0; b < 4; b++) {
                if (a != b) {
                    lens('r', a, b);
                    int at = f.with(empty, a, n);
                    int to = f.with(empty, b, n);
                    both("moves " + a + b, at, to);
                    both("moves nothing " + a + b, empty, empty);
                    noGet("something is at b " + a + b, f.with(at, b, s2));
                    noGet("something is at b, nothing at a " + a + b, to);
                    noPut("undone, something is at a " + a + b, at, f.with(to, a, s2));
                    noPut("undone, something is at a, nothing at b " + a + b, empty, at);
                }
            }
        }
    }

    /** Terms: 'd'; what was at the label, or that nothing was there, comes back, and nothing must be there in the view. */
    private void drops() {
        for (int a = 0; a < 4; a++) {
            lens('d', a, 0);
            int at = f.with(empty, a, n);
            int other = f.with(empty, (a + 1) % 4, s2);
            both("goes " + a, at, empty);
            both("nothing goes " + a, other, other);
            Check.due("comes back to another view " + a, f.put(at, other), f.with(other, a, n));
            noPut("something is there in the view " + a, at, at);
            noPut("something is there, nothing was " + a, empty, at);
        }
    }

    /** Terms: 'a'; nothing must be there; undone, the value v must be there. */
    private void adds() {
        for (int a = 0; a < 4; a++) {
            lens('a', a, n);
            int at = f.with(empty, a, n);
            both("comes " + a, empty, at);
            noGet("the same is there " + a, at);
            noGet("another one is there " + a, f.with(empty, a, s2));
            noPut("nothing is there " + a, empty, empty);
            noPut("another one is there, undone " + a, empty, f.with(empty, a, s2));
        }
    }

    /** Terms: 'n'; the record at b must be there, and have nothing at its label a, whether something goes there or not. */
    private void nests() {
        for (int a = 0; a < 4; a++) {
            int b = (a + 2) % 4;
            lens('n', a, b);
            int host = f.with(empty, b, empty);
            int both = f.with(host, a, n);
            int nested = f.with(empty, b, f.with(empty, a, n));
            both("goes in " + a, both, nested);
            both("nothing goes in " + a, host, host);
            noGet("nothing is at b " + a, f.with(empty, a, n));
            noGet("nothing is at a nor b " + a, empty);
            noGet("no record is at b " + a, f.with(f.with(empty, a, n), b, n));
            noGet("a list is at b " + a, f.with(f.with(empty, a, n), b, list(empty)));
            noGet("something is at its label a " + a, f.with(nested, a, s2));
            noGet("something is at its label a, nothing goes " + a, nested);
            noPut("something is at a " + a, both, f.with(nested, a, s2));
            noPut("something is at a, nothing comes out " + a, both, both);
            noPut("undone, nothing is at b " + a, both, empty);
            noPut("undone, no record is at b " + a, both, f.with(empty, b, n));
        }
    }

    /** Terms: 'w'; undone, it must be a list of it alone, if it is there. */
    private void wraps() {
        for (int a = 0; a < 4; a++) {
            lens('w', a, 0);
            int at = f.with(empty, a, n);
            both("becomes a list " + a, at, f.with(empty, a, list(n)));
            both("a list becomes a list " + a, f.with(empty, a, list(n)), f.with(empty, a, list(list(n))));
            both("nothing is there " + a, empty, empty);
            Check.due("nothing is there in the view " + a, f.put(at, empty), empty);
            noPut("no list " + a, at, at);
            noPut("an empty list " + a, at, f.with(empty, a, f.list(-1, -1, -1, -1)));
            noPut("a list of two " + a, at, f.with(empty, a, f.list(n, n, -1, -1)));
            noPut("a record " + a, at, f.with(empty, a, at));
        }
    }

    /** Terms: 's'; the symbol b becomes 9 less b, and that becomes b; all else stays. */
    private void swaps() {
        for (int b = 0; b <= 9; b++) {
            lens('s', 1, b);
            for (int symbol = 0; symbol <= 9; symbol++) {
                int at = f.with(empty, 1, f.value('s', symbol));
                boolean swaps = symbol == b || symbol == 9 - b;
                both("s " + b + " of " + symbol, at, f.with(empty, 1, f.value('s', swaps ? 9 - symbol : symbol)));
            }
            both("s of a number " + b, f.with(empty, 1, f.value('n', b)), f.with(empty, 1, f.value('n', b)));
            both("s of nothing " + b, empty, empty);
            both("s of another label " + b, rec(s2), rec(s2));
        }
    }

    /** Promises 25 and 26: UnsupportedOperationException if something would be too deep. */
    private void depths() {
        int four = n;
        for (int i = 1; i < 4; i++) {
            four = list(four);
        }
        int five = list(four);
        lens('w', 2, 0);
        both("depth 6", f.with(empty, 2, four), f.with(empty, 2, five));
        noGet("depth 7", f.with(empty, 2, five));
        lens('n', 0, 1);
        both("depth 6 inside", rec(four, empty), rec(-1, rec(four)));
        noGet("depth 7 inside", rec(five, empty));
        lens('a', 3, five);
        both("depth 6 comes", empty, f.with(empty, 3, five));
        int six = list(five);
        lens('a', 3, six);
        noGet("depth 7 comes", empty);
        lens('d', 0, 0);
        both("depth 6 goes and comes back", rec(five), empty);
    }

    /** Terms: what is made new are the parts that are no values yet, in their order, each one's parts ahead of it, and then itself. */
    private void madeNew() {
        int record = rec(n, s2, n, s2);
        for (int label = 0; label < 4; label++) {
            f.step('w', label, 0);
        }
        for (int label = 0; label < 4; label += 2) {
            f.step('w', label, 0);
        }
        int before = f.values();
        int view = f.get(record);
        Check.due("four are new", f.values(), before + 4);
        Check.due("the view comes last", view, before + 3);
        Check.due("the part at the label 0 of label 0", f.part(f.part(view, 0), 0), before);
        Check.due("the label 0", f.part(view, 0), before + 1);
        Check.due("the label 1", f.part(view, 1), before + 2);
        Check.due("the label 2 is the same", f.part(view, 2), before + 1);
        Check.due("the label 3 is the same", f.part(view, 3), before + 2);
        Check.due("got again", f.get(record), view);
        Check.due("nothing new", f.values(), before + 4);
        Check.due("put back", f.put(record, view), record);
        Check.due("nothing new is put back", f.values(), before + 4);
    }

    /** The value with the number 0 is a value like all others. */
    private static void valueZero() {
        Formwarden g = new Formwarden();
        int zero = g.value('s', 2);
        int none = g.record();
        int at = g.with(none, 0, zero);
        int host = g.with(none, 1, none);
        int both = g.with(host, 0, zero);
        int nested = g.with(none, 1, at);
        Object[][] steps = {{'n', 0, 1, both, nested}, {'r', 0, 3, at, g.with(none, 3, zero)}, {'d', 0, 0, at, none},
            {'a', 0, zero, none, at}, {'w', 0, 0, at, g.with(none, 0, g.list(zero, -1, -1, -1))},
            {'s', 0, 2, at, g.with(none, 0, g.value('s', 7))}, {'s', 0, 7, at, g.with(none, 0, g.value('s', 7))}};
        for (Object[] s : steps) {
            g.clearSteps();
            g.step((Character) s[0], (Integer) s[1], (Integer) s[2]);
            Check.due("value 0 by " + s[0] + ", got", g.get((Integer) s[3]), s[4]);
            Check.due("value 0 by " + s[0] + ", put", g.put((Integer) s[3], (Integer) s[4]), s[3]);
        }
        g.clearSteps();
        g.step('n', 0, 1);
        int taken = g.with(nested, 0, none);
        State.raises("value 0 at its label", g, UNSUPPORTED, () -> g.get(taken));
        State.raises("value 0 at its label, nothing goes", g, UNSUPPORTED, () -> g.get(nested));
        State.raises("value 0 at the label, undone", g, UNSUPPORTED, () -> g.put(host, both));
        int filled = g.with(nested, 0, zero);
        State.raises("value 0 at the label, comes out", g, UNSUPPORTED, () -> g.put(host, filled));
        g.clearSteps();
        g.step('r', 3, 0);
        State.raises("value 0 where nothing must be", g, UNSUPPORTED, () -> g.get(at));
        g.clearSteps();
        g.step('a', 0, none);
        State.raises("value 0 where something comes", g, UNSUPPORTED, () -> g.get(at));
        Check.due("value 0 merged", g.merge(none, at, none), at);
        Check.due("value 0 gone", g.merge(at, none, at), none);
        Check.due("value 0 in conflict", g.merge(none, at, g.with(none, 0, none)), at);
        Check.due("one conflict", g.conflicts(), 1);
        g.sample(zero);
        g.sample(at);
        Check.due("value 0 as a sample", g.fits(g.infer()), true);
    }

    /** Terms: what is made new down to the depth 6, the deepest one first. */
    private void madeDeep() {
        int record = rec(s2);
        f.step('s', 0, 2);
        for (int i = 0; i < 4; i++) {
            f.step('w', 0, 0);
        }
        int before = f.values();
        int view = f.get(record);
        Check.due("six are new", f.values(), before + 6);
        Check.due("the view comes last", view, before + 5);
        int inner = f.part(view, 0);
        for (int i = 4; i > 0; i--) {
            Check.due("each one's part ahead of it " + i, inner, before + i);
            Check.due("a list of one " + i, f.numberOf(inner), 1);
            inner = f.part(inner, 0);
        }
        Check.due("the symbol first", inner, before);
        Check.due("the symbol", f.numberOf(inner), 7);
        Check.due("put back", f.put(record, view), record);
        f.clearSteps();
        int list = f.part(view, 0);
        f.step('a', 2, list);
        f.step('r', 2, 1);
        f.step('n', 0, 1);
        State.raises("no record at 1", f, UNSUPPORTED, () -> f.get(rec(s2)));
    }

    /** Promises 25 and 26: IllegalStateException if a value would be made that is none of the 200. */
    private static void viewFull() {
        for (int free = 0; free <= 3; free++) {
            Formwarden f = new Formwarden();
            int r = f.with(f.record(), 0, f.value('n', -99));
            f.value('n', -98);
            for (int i = -97; f.values() < 200 - free; i++) {
                f.value('n', i);
            }
            f.step('w', 0, 0);
            f.step('w', 0, 0);
            if (free < 3) {
                State.raises(free + " free", f, STATE, () -> f.get(r));
                State.raises(free + " free, no such value", f, INDEX, () -> f.get(200));
                State.raises(free + " free, no record", f, UNSUPPORTED, () -> f.get(1));
            } else {
                int view = f.get(r);
                Check.due("three free", view, 199);
                Check.due("got again", f.get(r), 199);
                Check.due("put", f.put(r, view), r);
                f.clearSteps();
                f.step('d', 1, 0);
                Check.due("one of the 200", f.put(r, r), r);
                f.clearSteps();
                f.step('r', 0, 1);
                State.raises("none free, got", f, STATE, () -> f.get(r));
                f.clearSteps();
                f.step('r', 1, 0);
                State.raises("none free, put", f, STATE, () -> f.put(f.record(), r));
            }
        }
    }

    /** Promise 27: IndexOutOfBoundsException if there is no such value, for one of the three. */
    private void mergeNoSuch() {
        f.merge(n, s2, empty);
        Check.due("a conflict", f.conflicts(), 1);
        for (int bad : new int[] {3, -1, 199, 200, 599, Integer.MAX_VALUE, Integer.MIN_VALUE}) {
            State.raises("first " + bad, f, INDEX, () -> f.merge(bad, n, n));
            State.raises("one " + bad, f, INDEX, () -> f.merge(n, bad, n));
            State.raises("other " + bad, f, INDEX, () -> f.merge(n, n, bad));
        }
        Check.due("the last merging is the one that was", f.conflicts(), 1);
    }

    private void merged(String what, int first, int one, int other, int due, int conflicts) {
        Check.due(what, f.merge(first, one, other), due);
        Check.due(what + ", conflicts", f.conflicts(), conflicts);
    }

    /** Terms: merging. */
    private void merges() {
        int z = f.value('z', 0);
        merged("all three the same", n, n, n, n, 0);
        merged("both the same", n, z, z, z, 0);
        merged("one is the first one", n, n, z, z, 0);
        merged("the other is the first one", n, z, n, z, 0);
        merged("otherwise a conflict, the former one", n, z, s2, z, 1);
        merged("a conflict the other way round", n, s2, z, s2, 1);
        merged("nothing is a value of its own: it came", empty, rec(n), empty, rec(n), 0);
        merged("it came at both", empty, rec(n), rec(n), rec(n), 0);
        merged("it came differently", empty, rec(n), rec(s2), rec(n), 1);
        merged("it went", rec(n), rec(n), empty, empty, 0);
        merged("it went at both", rec(n, n), rec(-1, n), rec(-1, s2), rec(-1, s2), 0);
        merged("it went and it changed", rec(n), empty, rec(s2), empty, 1);
        merged("it changed and it went", rec(n), rec(s2), empty, rec(s2), 1);
        merged("nothing is no record", empty, rec(rec(n)), rec(rec(s2)), rec(rec(n)), 1);
        merged("records inside", rec(empty), rec(rec(n)), rec(rec(-1, s2)), rec(rec(n, s2)), 0);
        int[] lists = {f.list(-1, -1, -1, -1), list(n), f.list(n, n, -1, -1), f.list(n, n, n, n)};
        merged("empty lists", lists[0], lists[0], lists[0], lists[0], 0);
        merged("lists of one", lists[1], list(s2), list(z), list(s2), 1);
        merged("part by part", lists[2], f.list(s2, n, -1, -1), f.list(n, z, -1, -1), f.list(s2, z, -1, -1), 0);
        merged("four parts, four conflicts", lists[3], f.list(s2, s2, s2, s2), f.list(z, z, z, z), f.list(s2, s2, s2, s2), 4);
        merged("one is longer", lists[2], lists[3], f.list(s2, n, -1, -1), lists[3], 1);
        merged("the other is longer", lists[2], f.list(s2, n, -1, -1), lists[3], f.list(s2, n, -1, -1), 1);
        merged("the first is longer", lists[3], f.list(s2, n, -1, -1), lists[2], f.list(s2, n, -1, -1), 1);
        merged("a list and records", lists[1], rec(n), rec(s2), rec(n), 1);
        merged("a record and lists", rec(n), lists[1], list(s2), lists[1], 1);
    }

    /** Terms: what is merged at the greatest depth. */
    private void mergesDeep() {
        int z = f.value('z', 0);
        int[] three = {f.list(n, n, n, -1), f.list(s2, n, n, -1), f.list(n, n, z, -1), f.list(s2, n, z, -1)};
        for (int depth = 3; depth <= 6; depth++) {
            for (int i = 0; i < 4; i++) {
                three[i] = depth % 2 == 0 ? list(three[i]) : f.with(empty, 1, three[i]);
            }
            merged("depth " + depth, three[0], three[1], three[2], three[3], 0);
            merged("depth " + depth + ", both the same there", three[0], three[1], three[3], three[3], 0);
            merged("depth " + depth + ", taken back by one", three[1], three[0], three[3], three[2], 0);
        }
    }

    /** Terms: what is made new of what is merged. */
    private void mergedNew() {
        int first = rec(list(n), empty, list(n));
        int one = rec(list(s2), rec(n), list(n));
        int other = rec(list(n), rec(-1, s2), list(list(n)));
        int before = f.values();
        int made = f.merge(first, one, other);
        Check.due("the label 0 is there", f.part(made, 0), list(s2));
        Check.due("the label 1 is new", f.part(made, 1), before);
        Check.due("the label 2 is there", f.part(made, 2), list(list(n)));
        Check.due("itself", made, before + 1);
        Check.due("two are new", f.values(), before + 2);
    }

    /** Promise 28: the conflicts of the last merging, none ahead of the first one. */
    private void conflicting() {
        Check.due("ahead of the first one", f.conflicts(), 0);
        f.merge(rec(n, n, n, n), rec(s2, s2, s2, s2), rec(empty, empty, empty, empty));
        Check.due("four", f.conflicts(), 4);
        f.value('z', 0);
        Check.due("still four", f.conflicts(), 4);
        f.merge(n, n, n);
        Check.due("none", f.conflicts(), 0);
    }

    /** Promise 27: IllegalStateException if a value would be made that is none of the 200. */
    private static void mergeFull() {
        for (int made = 0; made < 2; made++) {
            Formwarden f = new Formwarden();
            int r = f.record();
            int n = f.value('n', -99);
            int one = f.with(r, 0, n);
            int other = f.with(r, 1, n);
            int both = made == 0 ? r : f.with(one, 1, n);
            for (int i = -98; f.values() < 200; i++) {
                f.value('n', i);
            }
            Check.due("a conflict", f.merge(n, one, other), one);
            Check.due("one conflict", f.conflicts(), 1);
            if (made == 0) {
                State.raises("none of the 200", f, STATE, () -> f.merge(r, one, other));
                Check.due("still one conflict", f.conflicts(), 1);
            } else {
                Check.due("one of the 200", f.merge(r, one, other), both);
                Check.due("no conflict", f.conflicts(), 0);
            }
        }
        Formwarden g = new Formwarden();
        int e = g.record();
        int m = g.value('n', -99);
        int a = g.with(e, 0, m);
        int b = g.with(e, 1, m);
        for (int i = -98; g.values() < 199; i++) {
            g.value('n', i);
        }
        Check.due("the 200th", g.merge(e, a, b), 199);
        int c = g.merge(e, b, a);
        Check.due("the same", c, 199);
        State.raises("no such value, and full", g, INDEX, () -> g.merge(e, a, 200));
    }

    /** Promises 29 and 30: IllegalStateException if there are 8; IndexOutOfBoundsException if there is no such value. */
    private void samples() {
        Check.due("none", f.clearSamples(), 0);
        for (int bad : new int[] {3, -1, 200, Integer.MAX_VALUE, Integer.MIN_VALUE}) {
            State.raises("sample " + bad, f, INDEX, () -> f.sample(bad));
        }
        for (int i = 1; i <= 8; i++) {
            Check.due("sample " + i, f.sample(i % 3), i);
        }
        State.raises("the 9th", f, STATE, () -> f.sample(0));
        State.raises("the 9th, no such value", f, INDEX, () -> f.sample(3));
        Check.due("eight", f.clearSamples(), 8);
        Check.due("none any more", f.clearSamples(), 0);
        Check.due("the first again", f.sample(2), 1);
    }

    /** Promise 32: whether all samples are of a schema; of none, all are. */
    private void fitting() {
        int none = f.schema('0', 0, 0, 0);
        int numbers = f.schema('n', 0, 5, 0);
        Check.due("without samples", f.fits(none), true);
        f.sample(n);
        Check.due("one", f.fits(numbers), true);
        Check.due("one is not", f.fits(none), false);
        for (int i = 0; i < 6; i++) {
            f.sample(n);
        }
        Check.due("seven", f.fits(numbers), true);
        f.sample(s2);
        Check.due("the eighth is not", f.fits(numbers), false);
        for (int bad : new int[] {2, -1, 50, Integer.MAX_VALUE, Integer.MIN_VALUE}) {
            State.raises("fits " + bad, f, INDEX, () -> f.fits(bad));
        }
    }

    /** What the schemas from one on are, as far as their values tell. */
    private static void alike(String what, Formwarden f, int schema, int other) {
        Check.due(what + ", within", f.isWithin(schema, other), true);
        Check.due(what + ", has all", f.isWithin(other, schema), true);
    }

    /** Promise 31 and terms: '0' without samples; kinds in their order; numbers, symbols, lists, records. */
    private static void inferring() {
        Formwarden f = new Formwarden();
        Check.due("without samples", f.infer(), 0);
        Check.due("none", f.isEmpty(0), true);
        Check.due("which is made, too", f.schemas(), 1);
        f.sample(f.value('n', 99));
        Check.due("one number", f.infer(), 1);
        alike("from 99 to 99", f, 1, f.schema('n', 99, 99, 0));
        f.sample(f.value('n', -99));
        Check.due("two numbers", f.infer(), 3);
        alike("from -99 to 99", f, 3, f.schema('n', -99, 99, 0));
        f.clearSamples();
        f.sample(f.value('b', 0));
        alike("both truths", f, f.infer(), f.schema('b', 0, 0, 0));
        f.clearSamples();
        f.sample(f.value('s', 0));
        f.sample(f.value('s', 9));
        alike("two symbols", f, f.infer(), f.schema('s', 513, 0, 0));
        f.clearSamples();
        f.sample(f.list(-1, -1, -1, -1));
        int count = f.schemas();
        int made = f.infer();
        Check.due("the empty list: '0' for its parts ahead", made, count + 1);
        Check.due("'0'", f.isEmpty(count), true);
        alike("the empty list", f, made, f.schema('l', count, 0, 0));
        f.clearSamples();
        f.sample(f.record());
        alike("the empty record", f, f.infer(), f.schema('o', 1, 0, 0));
        f.sample(f.with(f.record(), 3, f.value('n', 0)));
        int may = f.infer();
        Check.due("need not be there", f.isOf(f.record(), may), true);
        f.clearSamples();
        f.sample(f.with(f.record(), 3, f.value('n', 0)));
        int must = f.infer();
        Check.due("must be there", f.isOf(f.record(), must), false);
        Check.due("closed", f.isOf(f.with(f.with(f.record(), 3, f.value('n', 0)), 0, 0), must), false);
        kindsInOrder();
    }

    private static void kindsInOrder() {
        Formwarden f = new Formwarden();
        int n = f.value('n', 3);
        f.sample(f.with(f.with(f.record(), 2, n), 1, f.value('s', 1)));
        f.sample(f.list(n, f.value('b', 1), -1, -1));
        f.sample(f.list(n, -1, -1, -1));
        f.sample(f.value('s', 4));
        f.sample(n);
        f.sample(f.value('b', 0));
        f.sample(f.value('z', 0));
        // 0 nothing, 1 truths, 2 numbers, 3 symbols; 4 to 6 parts of lists, 7 lists; 8 and 9 labels, 10 records; 11 to 15 joined
        Check.due("all kinds", f.infer(), 15);
        char[] kinds = "zbnsbn".toCharArray();
        for (int i = 0; i < kinds.length; i++) {
            int v = i == 0 ? f.value('z', 0) : kinds[i] == 'b' ? f.value('b', 1) : kinds[i] == 'n' ? n : f.value('s', 4);
            Check.due("the kind " + i, f.isOf(v, i), true);
        }
        Check.due("the parts of lists, joined", f.isWithin(4, 6) && f.isWithin(5, 6), true);
        Check.due("lists of one", f.isOf(f.list(n, -1, -1, -1), 7), true);
        Check.due("no lists of three", f.isOf(f.list(n, n, n, -1), 7), false);
        Check.due("no empty list", f.isOf(f.list(-1, -1, -1, -1), 7), false);
        Check.due("the label 1 ahead", f.isOf(f.value('s', 1), 8), true);
        Check.due("and then the label 2", f.isOf(n, 9), true);
        Check.due("the record", f.isOf(f.with(f.with(f.record(), 2, n), 1, f.value('s', 1)), 10), true);
        for (int i = 11; i <= 15; i++) {
            Check.due("joined one after another " + i, f.isWithin(i == 11 ? 0 : i - 1, i), true);
            Check.due("not all yet " + i, f.fits(i), i == 15);
        }
    }

    /** Promise 31: IllegalStateException if there would be more than 50 schemas. */
    private static void inferFull() {
        for (int before = 43; before <= 50; before++) {
            Formwarden f = new Formwarden();
            for (int i = 0; i < before; i++) {
                f.schema('z', 0, 0, 0);
            }
            if (before == 50) {
                State.raises("'0', and 50", f, STATE, () -> f.infer());
            }
            int n = f.value('n', 1);
            f.sample(n);
            f.sample(f.list(n, -1, -1, -1));
            f.sample(f.with(f.record(), 0, n));
            // A number, a list with its part, a record with its label, and two joins: 7.
            if (before <= 43) {
                Check.due("the 50th", f.infer(), 49);
                Check.due("50 schemas", f.schemas(), 50);
            } else {
                State.raises("more than 50, from " + before, f, STATE, () -> f.infer());
                Check.due("no schema was made", f.schemas(), before);
            }
        }
        Formwarden f = new Formwarden();
        for (int i = 0; i < 49; i++) {
            f.schema('z', 0, 0, 0);
        }
        Check.due("'0' as the 50th", f.infer(), 49);
        State.raises("'0' as the 51st", f, STATE, () -> f.infer());
        manyFromNone();
    }

    /** Records of records of records of numbers: 1 + 4 * (1 + 4 * (1 + 4)) schemas at once. */
    private static void manyFromNone() {
        Formwarden f = new Formwarden();
        int v = f.value('n', 1);
        for (int i = 0; i < 3; i++) {
            int inner = v;
            v = f.record();
            for (int label = 0; label < 4; label++) {
                v = f.with(v, label, inner);
            }
            if (i == 1) {
                f.sample(v);
                Check.due("21 at once", f.infer(), 20);
                f.clearSamples();
            }
        }
        Formwarden g = new Formwarden();
        int w = g.value('n', 1);
        for (int i = 0; i < 3; i++) {
            int inner = w;
            w = g.record();
            for (int label = 0; label < 4; label++) {
                w = g.with(w, label, inner);
            }
        }
        g.sample(w);
        State.raises("85 at once", g, STATE, () -> g.infer());
        Check.due("no schema was made", g.schemas(), 0);
        Check.due("the first schema", g.schema('a', 0, 0, 0), 0);
    }

    /** Promise 34: ArithmeticException if there are none; IndexOutOfBoundsException if there is no such schema. */
    private static void shares() {
        Formwarden f = new Formwarden();
        Check.raises("neither schema nor values", INDEX, () -> f.share(0));
        int n = f.schema('n', -99, 0, 0);
        State.raises("no values", f, ArithmeticException.class, () -> f.share(n));
        State.raises("no values, and no such schema", f, INDEX, () -> f.share(1));
        f.value('n', 0);
        Check.due("one of one", f.share(n), 1.0f);
        f.value('n', 1);
        f.value('n', 2);
        Check.due("one of three", f.share(n), 1.0f / 3.0f);
        Check.due("none", f.share(f.schema('0', 0, 0, 0)), 0.0f);
        for (int i = -99; i <= 99; i++) {
            f.value('n', i);
        }
        Check.due("100 of 199", f.share(n), 100.0f / 199.0f);
        f.record();
        Check.due("100 of 200", f.share(n), 0.5f);
        for (int bad : new int[] {2, -1, 50, Integer.MAX_VALUE, Integer.MIN_VALUE}) {
            Check.raises("share " + bad, INDEX, () -> f.share(bad));
        }
    }

    /** Promise 35: ArithmeticException if there are none. */
    private static void means() {
        Formwarden f = new Formwarden();
        State.raises("no values", f, ArithmeticException.class, () -> f.meanSize());
        int v = f.value('n', 0);
        Check.due("one", f.meanSize(), 1.0);
        int sum = 1;
        int size = 1;
        for (int i = 0; i < 5; i++) {
            v = f.list(v, v, v, v);
            size = 4 * size + 1;
            sum += size;
            Check.due("of " + (i + 2), f.meanSize(), (double) sum / (double) (i + 2));
        }
        f.value('z', 0);
        Check.due("of seven", f.meanSize(), (sum + 1.0) / 7.0);
        int deep = v;
        for (int i = -99; i <= 99; i++) {
            int number = i;
            Check.answer(() -> f.value('n', number));
        }
        Check.due("200 values", f.values(), 200);
        State.raises("one more", f, STATE, () -> f.list(f.part(deep, 0), f.part(deep, 0), -1, -1));
        Check.due("of 200", f.meanSize(), (sum + 194.0) / 200.0);
    }
}

/** Promises 23 to 28: views and merging. */
public final class ViewsTest {
    private final Formwarden f = new Formwarden();
    private final int empty = f.record();
    private final int n1 = f.value('n', 1);
    private final int s3 = f.value('s', 3);
    private final int s6 = f.value('s', 6);

    private ViewsTest() {
    }

    public static void main(String[] args) {
        new ViewsTest().steps();
        new ViewsTest().moving();
        new ViewsTest().dropping();
        new ViewsTest().adding();
        new ViewsTest().nesting();
        new ViewsTest().wrapping();
        new ViewsTest().swapping();
        new ViewsTest().together();
        new ViewsTest().deep();
        full();
        new ViewsTest().merging();
        new ViewsTest().mergingLists();
        mergingFull();
        Check.end("ViewsTest");
    }

    /** A record with a value, or -1 for none, at each label. */
    private int rec(int... parts) {
        int made = empty;
        for (int i = 0; i < parts.length; i++) {
            made = f.with(made, i, parts[i]);
        }
        return made;
    }

    private void lens(Object... steps) {
        f.clearSteps();
        for (int i = 0; i < steps.length; i += 3) {
            f.step((Character) steps[i], (Integer) steps[i + 1], (Integer) steps[i + 2]);
        }
    }

    private void getPut(String what, int record, int view) {
        Check.due(what + " get", f.get(record), view);
        Check.due(what + " put", f.put(record, view), record);
    }

    private void noGet(String what, int record) {
        int count = f.values();
        Check.raises(what + " get", UnsupportedOperationException.class, () -> f.get(record));
        Check.raises(what + " put", UnsupportedOperationException.class, () -> f.put(record, record));
        Check.due(what + " values", f.values(), count);
    }

    private void noPut(String what, int record, int view) {
        int count = f.values();
        Check.raises(what + " put", UnsupportedOperationException.class, () -> f.put(record, view));
        Check.due(what + " values", f.values(), count);
    }

    private void steps() {
        int[][] bad = {{'q', 0, 1}, {'r', 4, 0}, {'r', -1, 0}, {'r', 0, 4}, {'r', 0, -1}, {'r', 2, 2}, {'n', 1, 1},
            {'n', 1, 4}, {'d', 4, 0}, {'d', -1, 0}, {'w', 4, 0}, {'s', 0, 10}, {'s', 0, -1}, {'s', 4, 0}, {'a', 4, 0},
            {'a', 4, 99}};
        for (int[] b : bad) {
            Check.raises("step " + (char) b[0] + b[1] + b[2], IllegalArgumentException.class,
                    () -> f.step((char) b[0], b[1], b[2]));
        }
        Check.raises("no such value", IndexOutOfBoundsException.class, () -> f.step('a', 0, f.values()));
        Check.raises("no such value -1", IndexOutOfBoundsException.class, () -> f.step('a', 0, -1));
        Check.due("no steps", f.clearSteps(), 0);
        int[][] good = {{'r', 0, 3}, {'n', 3, 0}, {'d', 3, 99}, {'w', 0, -5}, {'s', 0, 9}, {'s', 3, 0}, {'a', 2, n1},
            {'d', 0, 0}};
        for (int i = 0; i < 8; i++) {
            Check.due("step " + i, f.step((char) good[i][0], good[i][1], good[i][2]), i + 1);
        }
        Check.raises("9th", IllegalStateException.class, () -> f.step('d', 0, 0));
        Check.raises("9th that is none", IllegalArgumentException.class, () -> f.step('d', 4, 0));
        Check.raises("9th of no value", IndexOutOfBoundsException.class, () -> f.step('a', 0, 99));
        Check.due("clearSteps", f.clearSteps(), 8);
        Check.due("clearSteps again", f.clearSteps(), 0);
        getPut("without steps", rec(n1, s3), rec(n1, s3));
        Check.raises("no record", UnsupportedOperationException.class, () -> f.get(n1));
        Check.raises("no record", UnsupportedOperationException.class, () -> f.put(n1, empty));
        Check.raises("no record as view", UnsupportedOperationException.class, () -> f.put(empty, n1));
        for (int none : new int[] {-1, f.values(), 200}) {
            Check.raises("no value", IndexOutOfBoundsException.class, () -> f.get(none));
            Check.raises("no value", IndexOutOfBoundsException.class, () -> f.put(none, empty));
            Check.raises("no value as view", IndexOutOfBoundsException.class, () -> f.put(empty, none));
            Check.raises("no value for no record", IndexOutOfBoundsException.class, () -> f.put(n1, none));
        }
    }

    private void moving() {
        lens('r', 0, 2);
        getPut("r", rec(n1, s3), rec(-1, s3, n1));
        getPut("r of nothing", rec(-1, s3), rec(-1, s3));
        noGet("r to what is taken", rec(n1, -1, s3));
        noGet("r of nothing to what is taken", rec(-1, -1, s3));
        noPut("r back to what is taken", empty, rec(n1, -1, s3));
        noPut("r of nothing back to what is taken", empty, rec(n1));
        Check.due("a view of something else", f.put(rec(n1), rec(-1, s6, s3)), rec(s3, s6));
    }

    private void dropping() {
        lens('d', 1, 0);
        getPut("d", rec(n1, s3), rec(n1));
        getPut("d of nothing", rec(n1), rec(n1));
        noPut("d back to what is taken", rec(n1, s3), rec(n1, s3));
        noPut("d of nothing back to what is taken", rec(n1), rec(n1, s3));
        Check.due("comes back", f.put(rec(n1, s3), rec(s6)), rec(s6, s3));
    }

    private void adding() {
        lens('a', 1, s3);
        getPut("a", rec(n1), rec(n1, s3));
        noGet("a to what is taken", rec(n1, s6));
        noGet("a to what is the same", rec(n1, s3));
        noPut("a of nothing", rec(n1), rec(n1));
        noPut("a of another value", rec(n1), rec(n1, s6));
        lens('a', 1, rec(s3, n1));
        getPut("a of a record", rec(n1), rec(n1, rec(s3, n1)));
        lens('a', 0, n1, 'a', 1, n1, 'd', 0, 0, 'd', 1, 0);
        getPut("a and d", empty, empty);
        lens('d', 0, 0, 'a', 0, s3);
        getPut("d and a", rec(n1), rec(s3));
        noPut("d and a of another", rec(n1), rec(n1));
    }

    private void nesting() {
        lens('n', 0, 1);
        getPut("n", rec(n1, rec(-1, s3)), rec(-1, rec(n1, s3)));
        getPut("n of nothing", rec(-1, rec(-1, s3)), rec(-1, rec(-1, s3)));
        noGet("n into nothing", rec(n1));
        noGet("n into no record", rec(n1, s3));
        noGet("n into a list", rec(n1, f.list(empty, -1, -1, -1)));
        noGet("n to what is taken", rec(n1, rec(s3)));
        noGet("n of nothing to what is taken", rec(-1, rec(s3)));
        noGet("n of nothing into nothing", empty);
        int full = rec(n1, empty);
        noPut("n back to what is taken", full, rec(s3, rec(n1)));
        noPut("n of nothing back to what is taken", full, rec(s3, empty));
        noPut("n out of nothing", full, rec(-1, -1, s3));
        noPut("n out of no record", full, rec(-1, s3));
        Check.due("n of nothing", f.put(full, rec(-1, empty, s6)), rec(-1, empty, s6));
    }

    private void wrapping() {
        lens('w', 2, 0);
        getPut("w", rec(n1, -1, s3), rec(n1, -1, f.list(s3, -1, -1, -1)));
        getPut("w of nothing", rec(n1), rec(n1));
        noPut("w of no list", empty, rec(-1, -1, s3));
        noPut("w of two", empty, rec(-1, -1, f.list(s3, s3, -1, -1)));
        noPut("w of none", empty, rec(-1, -1, f.list(-1, -1, -1, -1)));
        noPut("w of a record", empty, rec(-1, -1, rec(s3)));
    }

    private void swapping() {
        lens('s', 0, 3);
        getPut("s", rec(s3, s3), rec(s6, s3));
        getPut("s the other way round", rec(s6), rec(s3));
        getPut("s of another symbol", rec(f.value('s', 4)), rec(f.value('s', 4)));
        getPut("s of a number", rec(f.value('n', 3)), rec(f.value('n', 3)));
        getPut("s of nothing", empty, empty);
        lens('s', 0, 9);
        Check.due("s that is new", f.get(rec(f.value('s', 0))), f.values() - 1);
    }

    private void together() {
        lens('r', 0, 3, 'n', 3, 1, 'w', 2, 0, 's', 2, 3);
        int record = rec(n1, empty, s3);
        int before = f.values();
        int view = f.get(record);
        Check.due("made anew: the parts first", view, before + 2);
        Check.due("made anew", f.part(view, 1), before);
        Check.due("made anew", f.part(view, 2), before + 1);
        Check.due("made anew", f.values(), before + 3);
        Check.due("put", f.put(record, view), record);
        lens('d', 0, 0, 'r', 1, 0, 'd', 0, 0);
        Check.due("all drops", f.get(rec(n1, s3, s6)), rec(-1, -1, s6));
        Check.due("all come back", f.put(rec(n1, s3, s6), rec(-1, -1, n1)), rec(n1, s3, n1));
        before = f.values();
        lens('r', 0, 1, 'n', 1, 2);
        Check.raises("the second does not fit", UnsupportedOperationException.class, () -> f.get(rec(s6)));
        lens('a', 0, n1, 'd', 3, 0);
        noPut("the first does not fit back", rec(-1, s6, s6, s6), rec(-1, s6, s6));
        lens('a', 1, n1);
        noPut("done does not fit", rec(s3, s3), rec(s3, n1));
        lens('n', 0, 1);
        int inner = rec(-1, -1, s3);
        int outer = rec(n1, inner);
        int expected = f.values();
        Check.due("the record inside first", f.get(outer), expected + 1);
        Check.due("the record inside first", f.part(expected + 1, 1), expected);
    }

    private void deep() {
        int deep = n1;
        for (int i = 0; i < 4; i++) {
            deep = f.list(deep, -1, -1, -1);
        }
        lens('w', 0, 0);
        int five = rec(f.part(deep, 0));
        int six = rec(deep);
        Check.due("deep", f.size(f.get(five)), 6);
        noGet("too deep", six);
        lens('w', 0, 0, 'd', 0, 0);
        noGet("too deep between", six);
        lens('n', 0, 1);
        noGet("too deep inside", rec(deep, empty));
        lens('d', 0, 0);
        getPut("deep comes back", six, empty);
        lens('n', 0, 1, 'd', 1, 0);
        noGet("too deep inside, and gone", rec(deep, empty));
    }

    private static void full() {
        Formwarden f = new Formwarden();
        int n = f.value('n', -99);
        int r = f.with(f.record(), 0, n);
        for (int i = -98; f.values() < 199; i++) {
            f.value('n', i);
        }
        f.step('w', 0, 0);
        Check.raises("two are too many", IllegalStateException.class, () -> f.get(r));
        Check.due("values", f.values(), 199);
        f.clearSteps();
        f.step('r', 0, 1);
        int view = f.get(r);
        Check.due("one is not", view, 199);
        Check.due("nor none", f.get(r), 199);
        Check.due("nor none", f.put(r, view), r);
        f.step('w', 1, 0);
        f.step('d', 1, 0);
        Check.due("between there may be others", f.get(r), f.record());
        f.clearSteps();
        f.step('w', 0, 0);
        f.step('n', 2, 1);
        Check.raises("does not fit, ahead of full", UnsupportedOperationException.class, () -> f.get(r));
        f.clearSteps();
        f.step('r', 0, 3);
        Check.raises("full", IllegalStateException.class, () -> f.get(r));
        f.clearSteps();
        f.step('d', 1, 0);
        Check.raises("full", IllegalStateException.class, () -> f.put(view, r));
        Check.due("values", f.values(), 200);
    }

    private void merged(String what, int first, int one, int other, int due, int conflicts) {
        Check.due(what, f.merge(first, one, other), due);
        Check.due(what + " conflicts", f.conflicts(), conflicts);
    }

    private void merging() {
        merged("all the same", n1, n1, n1, n1, 0);
        merged("both the same", n1, s3, s3, s3, 0);
        merged("one changed", n1, n1, s3, s3, 0);
        merged("the other changed", n1, s3, n1, s3, 0);
        merged("both changed", n1, s3, s6, s3, 1);
        merged("labels", rec(n1, n1), rec(s3, n1), rec(n1, s6), rec(s3, s6), 0);
        merged("labels with a conflict", rec(n1, n1), rec(s3, s3), rec(s6, n1), rec(s3, s3), 1);
        merged("two conflicts", rec(n1, n1), rec(s3, s3), rec(s6, s6), rec(s3, s3), 2);
        merged("come and gone", rec(n1), rec(-1, s3), rec(n1, -1, s6), rec(-1, s3, s6), 0);
        merged("both gone", rec(n1, n1), rec(n1), rec(-1, n1), empty, 0);
        merged("gone and changed", rec(n1), empty, rec(s3), empty, 1);
        merged("changed and gone", rec(n1), rec(s3), empty, rec(s3), 1);
        merged("both come", empty, rec(s3), rec(s6), rec(s3), 1);
        merged("both come the same", empty, rec(s3), rec(s3), rec(s3), 0);
        merged("inside", rec(rec(n1, n1)), rec(rec(s3, n1)), rec(rec(n1, s3)), rec(rec(s3, s3)), 0);
        merged("records that both came", empty, rec(rec(s3)), rec(rec(-1, s3)), rec(rec(s3)), 1);
        merged("a list and a record", rec(n1), f.list(n1, -1, -1, -1), rec(s3), f.list(n1, -1, -1, -1), 1);
        int before = f.values();
        for (int[] bad : new int[][] {{-1, 0, 0}, {0, -1, 0}, {0, 0, -1}, {before, 0, 0}, {0, before, 0}, {0, 0, before}}) {
            Check.raises("no such value", IndexOutOfBoundsException.class, () -> f.merge(bad[0], bad[1], bad[2]));
        }
        Check.due("conflicts as they were", f.conflicts(), 1);
    }

    private void mergingLists() {
        int a = f.list(n1, n1, n1, -1);
        merged("part by part", a, f.list(s3, n1, n1, -1), f.list(n1, n1, s6, -1), f.list(s3, n1, s6, -1), 0);
        merged("a part in conflict", a, f.list(s3, n1, n1, -1), f.list(s6, n1, s6, -1), f.list(s3, n1, s6, -1), 1);
        merged("of another length", a, f.list(s3, n1, n1, -1), f.list(n1, n1, -1, -1), f.list(s3, n1, n1, -1), 1);
        merged("of another length first", f.list(n1, -1, -1, -1), f.list(s3, -1, -1, -1), a, f.list(s3, -1, -1, -1), 1);
        merged("one of another length changed", a, f.list(n1, n1, -1, -1), a, f.list(n1, n1, -1, -1), 0);
        int first = rec(f.list(n1, n1, -1, -1), rec(n1));
        int one = rec(f.list(s3, n1, -1, -1), rec(n1, s3));
        int other = rec(f.list(n1, s6, -1, -1), rec(s6));
        int before = f.values();
        int made = f.merge(first, one, other);
        Check.due("parts ahead", made, before + 2);
        Check.due("parts ahead", f.part(made, 0), before);
        Check.due("parts ahead", f.part(made, 1), before + 1);
        Check.due("no more", f.values(), before + 3);
    }

    private static void mergingFull() {
        Formwarden f = new Formwarden();
        int n = f.value('n', -99);
        int r = f.record();
        int one = f.with(r, 0, n);
        int other = f.with(r, 1, n);
        int clash = f.with(r, 0, r);
        for (int i = -98; f.values() < 200; i++) {
            f.value('n', i);
        }
        Check.due("conflict", f.merge(r, one, clash), one);
        Check.due("conflicts", f.conflicts(), 1);
        Check.raises("full", IllegalStateException.class, () -> f.merge(r, one, other));
        Check.due("conflicts as they were", f.conflicts(), 1);
        Check.due("values", f.values(), 200);
    }
}

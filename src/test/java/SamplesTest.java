/** Promises 29 to 32, 34 and 35: samples, and shares and means of all values. */
public final class SamplesTest {
    private SamplesTest() {
    }

    public static void main(String[] args) {
        sampling();
        inferring();
        nested();
        full();
        fitting();
        shares();
        Check.end("SamplesTest");
    }

    private static void sampling() {
        Formwarden f = new Formwarden();
        Check.raises("no such value", IndexOutOfBoundsException.class, () -> f.sample(0));
        f.value('n', 1);
        for (int i = 1; i <= 8; i++) {
            Check.due("sample " + i, f.sample(0), i);
        }
        Check.raises("9th", IllegalStateException.class, () -> f.sample(0));
        Check.raises("9th that is none", IndexOutOfBoundsException.class, () -> f.sample(1));
        Check.raises("-1", IndexOutOfBoundsException.class, () -> f.sample(-1));
        Check.due("clearSamples", f.clearSamples(), 8);
        Check.due("clearSamples again", f.clearSamples(), 0);
        Check.due("sample again", f.sample(0), 1);
    }

    /** Whether two schemas have the same values. */
    private static void same(String what, Formwarden f, int one, int other) {
        Check.due(what + " is within", f.isWithin(one, other), true);
        Check.due(what + " has all", f.isWithin(other, one), true);
    }

    private static void inferring() {
        Formwarden f = new Formwarden();
        Check.due("of none", f.infer(), 0);
        Check.due("of none is empty", f.isEmpty(0), true);
        Check.due("schemas", f.schemas(), 1);
        f.sample(f.value('n', 4));
        f.sample(f.value('n', -3));
        Check.due("of numbers", f.infer(), 1);
        same("numbers", f, 1, f.schema('n', -3, 4, 0));
        f.sample(f.value('s', 9));
        f.sample(f.value('s', 2));
        f.sample(f.value('z', 0));
        f.sample(f.value('b', 1));
        Check.due("of more", f.infer(), 3 + 7 - 1);
        same("nothing", f, 3, f.schema('z', 0, 0, 0));
        same("truths", f, 4, f.schema('b', 0, 0, 0));
        same("numbers", f, 5, 1);
        same("symbols", f, 6, f.schema('s', 516, 0, 0));
        int two = f.schema('u', 3, 4, 0);
        same("the first two", f, 7, two);
        same("the first three", f, 8, f.schema('u', two, 1, 0));
        same("all", f, 9, f.schema('u', f.schema('u', two, 1, 0), 6, 0));
    }

    private static void nested() {
        Formwarden f = new Formwarden();
        int n = f.value('n', 1);
        int s = f.value('s', 0);
        int r = f.record();
        int one = f.with(r, 0, n);
        int two = f.with(f.with(r, 0, s), 2, f.list(n, n, -1, -1));
        f.sample(one);
        f.sample(two);
        Check.due("records", f.infer(), 5);
        // label 0: n, s and both; label 2: n and lists of it
        same("numbers", f, 0, f.schema('n', 1, 1, 0));
        same("symbols", f, 1, f.schema('s', 1, 0, 0));
        same("either", f, 2, f.schema('u', 0, 1, 0));
        same("part", f, 3, 0);
        same("list", f, 4, f.schema('l', 0, 2, 2));
        Check.due("a sample", f.isOf(one, 5), true);
        Check.due("a sample", f.isOf(two, 5), true);
        Check.due("must be there", f.isOf(r, 5), false);
        Check.due("need not be there", f.isOf(f.with(r, 0, s), 5), true);
        Check.due("closed", f.isOf(f.with(one, 1, n), 5), false);
        f.clearSamples();
        f.sample(f.list(-1, -1, -1, -1));
        int count = f.schemas();
        Check.due("empty list", f.infer(), count + 1);
        Check.due("of none", f.isEmpty(count), true);
        Check.due("the empty list", f.least(count + 1), 1);
        same("no other list", f, count + 1, f.schema('l', count, 0, 4));
        f.sample(f.list(n, s, n, -1));
        f.sample(r);
        count = f.schemas();
        Check.due("lists and a record", f.infer(), count + 5);
        same("lists", f, count + 3, f.schema('l', f.schema('u', 0, 1, 0), 0, 3));
        same("records", f, count + 4, f.schema('o', 1, 0, 0));
    }

    private static void full() {
        Formwarden f = new Formwarden();
        for (int i = 0; i < 47; i++) {
            f.schema('r', 0, 0, 0);
        }
        int n = f.value('n', 1);
        int one = f.with(f.record(), 0, n);
        f.sample(n);
        f.sample(one);
        Check.raises("one too many", IllegalStateException.class, () -> f.infer());
        Check.due("schemas as they were", f.schemas(), 47);
        Check.due("the next schema", f.schema('o', 1, 0, 0), 47);
        Check.due("tells nothing yet", f.field(47, 0, 0, false), false);
        f.clearSamples();
        f.sample(one);
        Check.due("two are not", f.infer(), 49);
        Check.raises("full", IllegalStateException.class, () -> f.infer());
        Check.due("schemas", f.schemas(), 50);
    }

    private static void fitting() {
        Formwarden f = new Formwarden();
        int low = f.schema('n', 0, 5, 0);
        int none = f.schema('0', 0, 0, 0);
        Check.due("without samples", f.fits(none), true);
        f.sample(f.value('n', 2));
        Check.due("fits", f.fits(low), true);
        Check.due("does not fit", f.fits(none), false);
        f.sample(f.value('n', 6));
        Check.due("one does not fit", f.fits(low), false);
        Check.due("what is found fits", f.fits(f.infer()), true);
        f.clearSamples();
        Check.due("without samples again", f.fits(none), true);
        Check.raises("no such", IndexOutOfBoundsException.class, () -> f.fits(3));
        Check.raises("no such -1", IndexOutOfBoundsException.class, () -> f.fits(-1));
    }

    private static void shares() {
        Formwarden f = new Formwarden();
        Check.raises("no such schema", IndexOutOfBoundsException.class, () -> f.share(0));
        int n = f.schema('n', 0, 5, 0);
        Check.raises("no values", ArithmeticException.class, () -> f.share(n));
        Check.raises("no values", ArithmeticException.class, () -> f.meanSize());
        f.value('n', 3);
        Check.due("all", f.share(n), 1.0f);
        f.value('n', 6);
        f.list(0, 1, 0, -1);
        Check.due("one of three", f.share(n), 1.0f / 3.0f);
        Check.due("mean", f.meanSize(), 6.0 / 3.0);
        f.list(2, -1, -1, -1);
        Check.due("mean of four", f.meanSize(), 11.0 / 4.0);
        Check.due("one of four", f.share(n), 0.25f);
        Check.due("none of four", f.share(f.schema('z', 0, 0, 0)), 0.0f);
        Check.raises("no such schema", IndexOutOfBoundsException.class, () -> f.share(2));
        Check.raises("no such schema -1", IndexOutOfBoundsException.class, () -> f.share(-1));
    }
}

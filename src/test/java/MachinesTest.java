import java.util.ArrayList;
import java.util.List;

/**
 * Chains of records in which each link hangs on those far behind it, so that a value is told apart from
 * others by very much: what the smallest one is, is known from making the chain link by link.
 */
public final class MachinesTest {
    private static final int RECORD_BIT = 0;
    private static final int NESTED_BIT = 1;
    private static final int TWO_NAMES = 2;

    private MachinesTest() {
    }

    public static void main(String[] args) {
        int[][] forms = {{4, 3, 3}, {7, 6, 5}, {10, 7, 6}, {11, 9, 7}, {15, 14, 6}, {17, 14, 7}, {20, 17, 7}, {21, 19, 5}};
        for (int[] form : forms) {
            for (int coding = RECORD_BIT; coding <= TWO_NAMES; coding++) {
                registers(form[0], form[1], form[2], coding);
            }
        }
        pinned(7, 6);
        pinned(10, 7);
        pinned(15, 14);
        for (int near = 5; near <= 8; near++) {
            beside(9, near);
        }
        beside(11, 9);
        freeTrack();
        counters();
        restated();
        Check.end("MachinesTest");
    }

    private static void least(String what, Formwarden f, int s, int due) {
        Object got = Check.answer(() -> f.least(s));
        Check.due(what, got, due == 0 ? "NoSuchElementException" : due);
        Check.due(what + " empty", f.isEmpty(s), due == 0);
    }

    private static int xor(Formwarden f, int a, int b) {
        return f.schema('&', f.schema('u', a, b, 0), f.schema('!', f.schema('&', a, b, 0), 0, 0), 0);
    }

    private static int same(Formwarden f, int a, int b) {
        return f.schema('u', f.schema('&', a, b, 0), f.schema('!', f.schema('u', a, b, 0), 0, 0), 0);
    }

    private static int record(Formwarden f, boolean closed, int label, int item, boolean must) {
        int o = f.schema('o', closed ? 1 : 0, 0, 0);
        f.field(o, label, item, must);
        return o;
    }

    /** That what is so many links on has the bit, for 0 up to this number. */
    private static int[] later(Formwarden f, int bit, int most) {
        int[] all = new int[most + 1];
        all[0] = bit;
        for (int i = 1; i <= most; i++) {
            all[i] = record(f, false, 0, all[i - 1], true);
        }
        return all;
    }

    /** A chain from its end on: each bit is the sum of the two that are this much nearer to the end, the last one is 1. */
    private static List<Integer> bits(int far, int near, int most, int run) {
        List<Integer> bits = new ArrayList<>(List.of(1));
        int ones = 1;
        while (bits.size() < most && ones < run) {
            int n = bits.size();
            int bit = (n >= far ? bits.get(n - far) : 0) ^ (n >= near ? bits.get(n - near) : 0);
            bits.add(bit);
            ones = bit == 1 ? ones + 1 : 0;
        }
        return ones < run ? null : bits;
    }

    private static int sizeOf(List<Integer> bits, int ofBit) {
        int size = 0;
        for (int bit : bits) {
            size += 1 + bit * ofBit;
        }
        return Math.min(size, 1000);
    }

    /** The shortest chain that starts with so many ones. */
    private static void registers(int far, int near, int run, int coding) {
        Formwarden f = new Formwarden();
        int z = f.schema('z', 0, 0, 0);
        int bit = coding == NESTED_BIT ? record(f, true, 0, z, true) : z;
        int[] later = later(f, record(f, false, 1, bit, true), far);
        int name = f.schema('r', 0, 0, 0);
        int other = coding == TWO_NAMES ? f.schema('r', 1, 0, 0) : name;
        int last = record(f, true, 1, bit, true);
        int link = record(f, true, 1, bit, false);
        f.field(link, 0, other, true);
        int right = same(f, later[0], xor(f, later[near], later[far]));
        f.bind(0, f.schema('u', last, f.schema('&', link, right, 0), 0));
        if (coding == TWO_NAMES) {
            int back = record(f, true, 1, bit, false);
            f.field(back, 0, name, true);
            f.bind(1, f.schema('u', last, f.schema('&', back, right, 0), 0));
        }
        int start = name;
        for (int i = 0; i < run; i++) {
            start = f.schema('&', start, later[i], 0);
        }
        List<Integer> bits = bits(far, near, 3000000, run);
        String what = "register " + far + " " + near + " " + run + " " + coding;
        least(what, f, start, bits == null ? 0 : sizeOf(bits, coding == NESTED_BIT ? 2 : 1));
        Check.due(what + " within", f.isWithin(start, name), true);
    }

    /** All bits that tell how the chain goes on are told at its start. */
    private static void pinned(int far, int near) {
        registers(far, near, far, RECORD_BIT);
    }

    /** Beside a pinned chain stands a record that is only told not to be empty: any single label is enough for it. */
    private static void beside(int far, int near) {
        Formwarden f = new Formwarden();
        int z = f.schema('z', 0, 0, 0);
        int[] later = later(f, record(f, false, 1, z, true), far);
        int name = f.schema('r', 0, 0, 0);
        int link = record(f, true, 1, z, false);
        f.field(link, 0, name, true);
        int right = same(f, later[0], xor(f, later[near], later[far]));
        f.bind(0, f.schema('u', record(f, true, 1, z, true), f.schema('&', link, right, 0), 0));
        int start = name;
        for (int i = 0; i < far; i++) {
            start = f.schema('&', start, later[i], 0);
        }
        int notEmpty = f.schema('&', f.schema('o', 0, 0, 0), f.schema('!', f.schema('o', 1, 0, 0), 0, 0), 0);
        int both = record(f, true, 0, notEmpty, true);
        f.field(both, 1, start, true);
        List<Integer> bits = bits(far, near, 3000000, far);
        least("beside " + far + " " + near, f, both, bits == null ? 0 : Math.min(1000, sizeOf(bits, 1) + 3));
    }

    /** A register that comes round without so many ones, and a second bit at each link that can be what it likes. */
    private static void freeTrack() {
        for (int free = 4; free <= 11; free++) {
            Formwarden f = new Formwarden();
            int z = f.schema('z', 0, 0, 0);
            int[] later = later(f, record(f, false, 1, z, true), 12);
            int[] others = later(f, record(f, false, 2, z, true), free);
            int name = f.schema('r', 0, 0, 0);
            int last = record(f, true, 1, z, true);
            int link = record(f, true, 1, z, false);
            f.field(link, 0, name, true);
            f.field(link, 2, z, false);
            int right = same(f, later[0], xor(f, later[2], later[12]));
            int either = f.schema('u', f.schema('u', later[12], others[free], 0), others[0], 0);
            f.bind(0, f.schema('u', last, f.schema('&', link, f.schema('&', right, either, 0), 0), 0));
            int start = name;
            for (int i = 0; i < 5; i++) {
                start = f.schema('&', start, later[i], 0);
            }
            Check.due("no such run", bits(12, 2, 100000, 5) == null, true);
            least("free track " + free, f, start, 0);
        }
    }

    /** Blocks of two or three bits that count down to zero, each block one less than the one ahead of it. */
    private static void counters() {
        for (int width = 2; width <= 3; width++) {
            Formwarden f = new Formwarden();
            int z = f.schema('z', 0, 0, 0);
            int name = f.schema('r', 0, 0, 0);
            int[] bits = later(f, record(f, false, 1, z, true), width);
            int[] marks = later(f, record(f, false, 2, z, true), width);
            int borrow = record(f, false, 3, z, true);
            int nextBorrow = record(f, false, 0, borrow, true);
            int zeros = f.schema('o', 1, 0, 0);
            for (int i = 2; i < width; i++) {
                zeros = record(f, true, 0, zeros, true);
            }
            int last = record(f, true, 0, zeros, true);
            f.field(last, 2, z, true);
            int link = record(f, true, 0, f.schema('u', name, last, 0), true);
            for (int label = 1; label < 4; label++) {
                f.field(link, label, z, false);
            }
            int body = f.schema('&', link, f.schema('!', xor(f, marks[0], marks[width]), 0, 0), 0);
            body = f.schema('&', body, f.schema('!', xor(f, bits[width], xor(f, bits[0], borrow)), 0, 0), 0);
            body = f.schema('&', body, f.schema('u', f.schema('!', marks[0], 0, 0), borrow, 0), 0);
            int goesOn = f.schema('&', borrow, f.schema('!', bits[0], 0, 0), 0);
            body = f.schema('&', body, f.schema('u', marks[1], f.schema('!', xor(f, nextBorrow, goesOn), 0, 0), 0), 0);
            f.bind(0, body);
            int start = f.schema('&', name, marks[0], 0);
            for (int i = 0; i < width; i++) {
                start = f.schema('&', start, bits[i], 0);
            }
            least("counter " + width, f, start, counted(width));
        }
    }

    private static int counted(int width) {
        int size = width + 1;
        for (int number = 1; number < 1 << width; number++) {
            boolean borrow = true;
            size += width + 1;
            for (int i = 0; i < width; i++) {
                int bit = number >> i & 1;
                size += bit + (borrow ? 1 : 0);
                borrow &= bit == 0;
            }
        }
        return size;
    }

    /** The same told twice, in other words and by names of its own: each is within the other one. */
    private static void restated() {
        for (int far = 2; far <= 4; far++) {
            Formwarden f = new Formwarden();
            int z = f.schema('z', 0, 0, 0);
            int one = chains(f, z, far, 0);
            int two = chains(f, z, far, 1);
            Check.due("restated " + far, f.isWithin(one, two), true);
            Check.due("restated back " + far, f.isWithin(two, one), true);
            Check.due("restated borne out " + far, f.isBorneOut(one, two), true);
            f.bind(1, z);
            Check.due("not restated any more " + far, Check.answer(() -> f.gap(one, two)), far + 1);
        }
    }

    /** Trees of the labels 0 and 1 of which some branch, so many links from its end, is at the label 1; told in two ways. */
    private static int chains(Formwarden f, int z, int far, int name) {
        int all = f.schema('r', name, 0, 0);
        int notEmpty = f.schema('!', f.schema('o', 1, 0, 0), 0, 0);
        int rest = z;
        for (int i = 1; i < far; i++) {
            int both = fork(f, rest, true, true);
            if (name == 0) {
                rest = f.schema('u', f.schema('u', record(f, true, 0, rest, true), record(f, true, 1, rest, true), 0), both, 0);
            } else {
                rest = f.schema('&', notEmpty, fork(f, rest, false, false), 0);
            }
        }
        int end = record(f, true, 1, rest, true);
        int zero = record(f, true, 0, all, true);
        int one = record(f, true, 1, all, true);
        int either = f.schema('!', f.schema('&', f.schema('!', zero, 0, 0), f.schema('!', one, 0, 0), 0), 0, 0);
        f.bind(name, f.schema('u', end, name == 0 ? f.schema('u', zero, one, 0) : either, 0));
        return all;
    }

    private static int fork(Formwarden f, int item, boolean mustZero, boolean mustOne) {
        int o = f.schema('o', 1, 0, 0);
        f.field(o, 0, item, mustZero);
        f.field(o, 1, item, mustOne);
        return o;
    }
}

import java.util.ArrayList;
import java.util.List;

/**
 * Chains of records in which each link hangs on those far behind it, so that a value is told apart from
 * others by very much: what the smallest one is, is known from making the chain link by link.
 */
public final class MachinesTest {
    private static final int RECORD_BIT = 0;
    private static final int NESTED_BIT = 1;
    private static final int TWO_NAMES = 2;

    private MachinesTest() {
    }

    public static void main(String[] args) {
        int[][] forms = {{4, 3, 3}, {7, 6, 5}, {10, 7, 6}, {11, 9, 7}, {15, 14, 6}, {17, 14, 7}, {20, 17, 7}, {21, 19, 5}};
        for (int[] form : forms) {
            for (int coding = RECORD_BIT; coding <= TWO_NAMES; coding++) {
                registers(form[0], form[1], form[2], coding);
            }
        }
        pinned(7, 6);
        pinned(10, 7);
        pinned(15, 14);
        for (int near = 5; near <= 8; near++) {
            beside(9, near);
        }
        beside(11, 9);
        inputs(11, 7, 3, 11);
        inputs(13, 4, 9, 13);
        inputs(16, 13, 5, 13);
        inputs(17, 14, 16, 12);
        wide();
        freeTrack();
        counters();
        restated();
        Check.end("MachinesTest");
    }

    private static void least(String what, Formwarden f, int s, int due) {
        Object got = Check.answer(() -> f.least(s));
        Check.due(what, got, due == 0 ? "NoSuchElementException" : due);
        Check.due(what + " empty", f.isEmpty(s), due == 0);
    }

    private static int xor(Formwarden f, int a, int b) {
        return f.schema('&', f.schema('u', a, b, 0), f.schema('!', f.schema('&', a, b, 0), 0, 0), 0);
    }

    private static int same(Formwarden f, int a, int b) {
        return f.schema('u', f.schema('&', a, b, 0), f.schema('!', f.schema('u', a, b, 0), 0, 0), 0);
    }

    private static int record(Formwarden f, boolean closed, int label, int item, boolean must) {
        int o = f.schema('o', closed ? 1 : 0, 0, 0);
        f.field(o, label, item, must);
        return o;
    }

    /** That what is so many links on has the bit, for 0 up to this number. */
    private static int[] later(Formwarden f, int bit, int most) {
        int[] all = new int[most + 1];
        all[0] = bit;
        for (int i = 1; i <= most; i++) {
            all[i] = record(f, false, 0, all[i - 1], true);
        }
        return all;
    }

    /** A chain from its end on: each bit is the sum of the two that are this much nearer to the end, the last one is 1. */
    private static List<Integer> bits(int far, int near, int most, int run) {
        List<Integer> bits = new ArrayList<>(List.of(1));
        int ones = 1;
        while (bits.size() < most && ones < run) {
            int n = bits.size();
            int bit = (n >= far ? bits.get(n - far) : 0) ^ (n >= near ? bits.get(n - near) : 0);
            bits.add(bit);
            ones = bit == 1 ? ones + 1 : 0;
        }
        return ones < run ? null : bits;
    }

    private static int sizeOf(List<Integer> bits, int ofBit) {
        int size = 0;
        for (int bit : bits) {
            size += 1 + bit * ofBit;
        }
        return Math.min(size, 1000);
    }

    /** The shortest chain that starts with so many ones. */
    private static void registers(int far, int near, int run, int coding) {
        Formwarden f = new Formwarden();
        int z = f.schema('z', 0, 0, 0);
        int bit = coding == NESTED_BIT ? record(f, true, 0, z, true) : z;
        int[] later = later(f, record(f, false, 1, bit, true), far);
        int name = f.schema('r', 0, 0, 0);
        int other = coding == TWO_NAMES ? f.schema('r', 1, 0, 0) : name;
        int last = record(f, true, 1, bit, true);
        int link = record(f, true, 1, bit, false);
        f.field(link, 0, other, true);
        int right = same(f, later[0], xor(f, later[near], later[far]));
        f.bind(0, f.schema('u', last, f.schema('&', link, right, 0), 0));
        if (coding == TWO_NAMES) {
            int back = record(f, true, 1, bit, false);
            f.field(back, 0, name, true);
            f.bind(1, f.schema('u', last, f.schema('&', back, right, 0), 0));
        }
        int start = name;
        for (int i = 0; i < run; i++) {
            start = f.schema('&', start, later[i], 0);
        }
        List<Integer> bits = bits(far, near, 3000000, run);
        String what = "register " + far + " " + near + " " + run + " " + coding;
        least(what, f, start, bits == null ? 0 : sizeOf(bits, coding == NESTED_BIT ? 2 : 1));
        Check.due(what + " within", f.isWithin(start, name), true);
    }

    /** All bits that tell how the chain goes on are told at its start. */
    private static void pinned(int far, int near) {
        registers(far, near, far, RECORD_BIT);
    }

    /**
     * A register whose next bit may also be the other one, at the price of a mark, where a third bit is 1: the
     * shortest chain that starts with so many ones is found by going through all states by their sizes.
     */
    private static void inputs(int far, int near, int gate, int run) {
        Formwarden f = new Formwarden();
        int z = f.schema('z', 0, 0, 0);
        int[] later = later(f, record(f, false, 1, z, true), far);
        int mark = record(f, false, 2, z, true);
        int name = f.schema('r', 0, 0, 0);
        int link = record(f, true, 1, z, false);
        f.field(link, 0, name, true);
        f.field(link, 2, z, false);
        int right = same(f, later[0], xor(f, later[near], later[far]));
        int either = f.schema('u', f.schema('&', mark, later[gate], 0), f.schema('&', right, f.schema('!', mark, 0, 0), 0), 0);
        f.bind(0, f.schema('u', record(f, true, 1, z, true), f.schema('&', link, either, 0), 0));
        int start = name;
        for (int i = 0; i < run; i++) {
            start = f.schema('&', start, later[i], 0);
        }
        least("inputs " + far + " " + near + " " + gate, f, start, shortest(far, near, gate, run));
    }

    /** The size of the shortest such chain: the bits of a state are those of the chain, the first one lowest. */
    private static int shortest(int far, int near, int gate, int run) {
        int mask = (1 << far) - 1;
        int ones = (1 << run) - 1;
        int[] sizes = new int[mask + 1];
        List<List<Integer>> bySize = new ArrayList<>();
        put(bySize, sizes, 1, 2);
        for (int size = 2; size < bySize.size(); size++) {
            for (int state : bySize.get(size)) {
                if ((state & ones) == ones) {
                    return Math.min(size, 1000);
                }
                int bit = (state >> near - 1 ^ state >> far - 1) & 1;
                put(bySize, sizes, (state << 1 | bit) & mask, size + 1 + bit);
                if ((state >> gate - 1 & 1) == 1) {
                    put(bySize, sizes, state << 1 & mask, size + 2);
                    put(bySize, sizes, (state << 1 | 1) & mask, size + 3);
                }
            }
        }
        return 0;
    }

    private static void put(List<List<Integer>> bySize, int[] sizes, int state, int size) {
        while (bySize.size() <= size) {
            bySize.add(new ArrayList<>());
        }
        if (sizes[state] == 0 || size < sizes[state]) {
            sizes[state] = size;
            bySize.get(size).add(state);
        }
    }

    /** Chains that some hundred thousand or a million kinds of links have to be told apart for; found by trying many. */
    private static void wide() {
        String later = "z o0,1!0 o0,0!1 o0,0!2 o0,0!3 o0,0!4 o0,0!5 o0,0!6 o0,0!7 o0,0!8 o0,0!9 o0,0!10 o0,0!11 o0,0!12 ";
        Formwarden f = Told.schemas(later + "o0,0!13 o0,0!14 o0,0!15 o0,0!16 o0,0!17 o0,0!18 o0,0!19 o0,0!20 r0 r1 o1,1!0"
                + " o1,0!23,1?0 u18,21 &18,21 !27 &26,28 &1,29 u1,29 !31 u30,32 &25,33 u24,34 o1,0!22,1?0,2!2 &36,33"
                + " u24,37 &22,1 &39,2 &40,3 &41,4 &42,5 &43,6 &44,7 =0,35 =1,38");
        Check.due("wide 1", Check.answer(() -> f.gap(45, 18)), 1000);
        Formwarden g = Told.schemas(later + "o0,2!0 o0,0!14 o0,0!15 o0,0!16 o0,0!17 o0,0!18 o0,0!19 o0,0!20 o0,0!21 o0,0!22 o0,0!23 r0"
                + " o1,1!0 o1,0!25,1?0,2?0 u3,13 &4,13 !29 &28,30 &1,31 u1,31 !33 u32,34 u13,24 u36,14 &35,37 &27,38"
                + " u29,39 &25,1 &41,23 &42,3 &43,4 &44,5 n22,32 =0,40 =1,44");
        Check.due("wide 2", Check.answer(() -> g.gap(45, 21)), 19);
        Formwarden h = Told.schemas("z o1,0!0 o0,1!1 o0,0!2 o0,0!3 o0,0!4 o0,0!5 o0,0!6 o0,0!7 o0,0!8 o0,0!9 o0,0!10 o0,0!11"
                + " o0,0!12 o0,0!13 o0,0!14 o0,0!15 o0,0!16 o0,0!17 o0,0!18 o0,0!19 o0,0!20 o0,0!21 r0 o1,1?13"
                + " o1,0!23,1?1 u19,22 &19,22 !27 &26,28 &2,29 u2,29 !31 u30,32 &25,33 u24,34 &23,2 &36,3 &37,4 &38,5"
                + " &39,6 &40,7 &41,8 o0,0!33,1!42,3!32 =0,35 =4,32");
        least("wide 3", h, 42, 0);
    }

    /** Beside a pinned chain stands a record that is only told not to be empty: any single label is enough for it. */
    private static void beside(int far, int near) {
        Formwarden f = new Formwarden();
        int z = f.schema('z', 0, 0, 0);
        int[] later = later(f, record(f, false, 1, z, true), far);
        int name = f.schema('r', 0, 0, 0);
        int link = record(f, true, 1, z, false);
        f.field(link, 0, name, true);
        int right = same(f, later[0], xor(f, later[near], later[far]));
        f.bind(0, f.schema('u', record(f, true, 1, z, true), f.schema('&', link, right, 0), 0));
        int start = name;
        for (int i = 0; i < far; i++) {
            start = f.schema('&', start, later[i], 0);
        }
        int notEmpty = f.schema('&', f.schema('o', 0, 0, 0), f.schema('!', f.schema('o', 1, 0, 0), 0, 0), 0);
        int both = record(f, true, 0, notEmpty, true);
        f.field(both, 1, start, true);
        List<Integer> bits = bits(far, near, 3000000, far);
        least("beside " + far + " " + near, f, both, bits == null ? 0 : Math.min(1000, sizeOf(bits, 1) + 3));
    }

    /** A register that comes round without so many ones, and a second bit at each link that can be what it likes. */
    private static void freeTrack() {
        for (int free = 4; free <= 11; free++) {
            Formwarden f = new Formwarden();
            int z = f.schema('z', 0, 0, 0);
            int[] later = later(f, record(f, false, 1, z, true), 12);
            int[] others = later(f, record(f, false, 2, z, true), free);
            int name = f.schema('r', 0, 0, 0);
            int last = record(f, true, 1, z, true);
            int link = record(f, true, 1, z, false);
            f.field(link, 0, name, true);
            f.field(link, 2, z, false);
            int right = same(f, later[0], xor(f, later[2], later[12]));
            int either = f.schema('u', f.schema('u', later[12], others[free], 0), others[0], 0);
            f.bind(0, f.schema('u', last, f.schema('&', link, f.schema('&', right, either, 0), 0), 0));
            int start = name;
            for (int i = 0; i < 5; i++) {
                start = f.schema('&', start, later[i], 0);
            }
            Check.due("no such run", bits(12, 2, 100000, 5) == null, true);
            least("free track " + free, f, start, 0);
        }
    }

    /** Blocks of two or three bits that count down to zero, each block one less than the one ahead of it. */
    private static void counters() {
        for (int width = 2; width <= 3; width++) {
            Formwarden f = new Formwarden();
            int z = f.schema('z', 0, 0, 0);
            int name = f.schema('r', 0, 0, 0);
            int[] bits = later(f, record(f, false, 1, z, true), width);
            int[] marks = later(f, record(f, false, 2, z, true), width);
            int borrow = record(f, false, 3, z, true);
            int nextBorrow = record(f, false, 0, borrow, true);
            int zeros = f.schema('o', 1, 0, 0);
            for (int i = 2; i < width; i++) {
                zeros = record(f, true, 0, zeros, true);
            }
            int last = record(f, true, 0, zeros, true);
            f.field(last, 2, z, true);
            int link = record(f, true, 0, f.schema('u', name, last, 0), true);
            for (int label = 1; label < 4; label++) {
                f.field(link, label, z, false);
            }
            int body = f.schema('&', link, f.schema('!', xor(f, marks[0], marks[width]), 0, 0), 0);
            body = f.schema('&', body, f.schema('!', xor(f, bits[width], xor(f, bits[0], borrow)), 0, 0), 0);
            body = f.schema('&', body, f.schema('u', f.schema('!', marks[0], 0, 0), borrow, 0), 0);
            int goesOn = f.schema('&', borrow, f.schema('!', bits[0], 0, 0), 0);
            body = f.schema('&', body, f.schema('u', marks[1], f.schema('!', xor(f, nextBorrow, goesOn), 0, 0), 0), 0);
            f.bind(0, body);
            int start = f.schema('&', name, marks[0], 0);
            for (int i = 0; i < width; i++) {
                start = f.schema('&', start, bits[i], 0);
            }
            least("counter " + width, f, start, counted(width));
        }
    }

    private static int counted(int width) {
        int size = width + 1;
        for (int number = 1; number < 1 << width; number++) {
            boolean borrow = true;
            size += width + 1;
            for (int i = 0; i < width; i++) {
                int bit = number >> i & 1;
                size += bit + (borrow ? 1 : 0);
                borrow &= bit == 0;
            }
        }
        return size;
    }

    /** The same told twice, in other words and by names of its own: each is within the other one. */
    private static void restated() {
        for (int far = 2; far <= 4; far++) {
            Formwarden f = new Formwarden();
            int z = f.schema('z', 0, 0, 0);
            int one = chains(f, z, far, 0);
            int two = chains(f, z, far, 1);
            Check.due("restated " + far, f.isWithin(one, two), true);
            Check.due("restated back " + far, f.isWithin(two, one), true);
            Check.due("restated borne out " + far, f.isBorneOut(one, two), true);
            f.bind(1, z);
            Check.due("not restated any more " + far, Check.answer(() -> f.gap(one, two)), far + 1);
        }
    }

    /** Trees of the labels 0 and 1 of which some branch, so many links from its end, is at the label 1; told in two ways. */
    private static int chains(Formwarden f, int z, int far, int name) {
        int all = f.schema('r', name, 0, 0);
        int notEmpty = f.schema('!', f.schema('o', 1, 0, 0), 0, 0);
        int rest = z;
        for (int i = 1; i < far; i++) {
            int both = fork(f, rest, true, true);
            if (name == 0) {
                rest = f.schema('u', f.schema('u', record(f, true, 0, rest, true), record(f, true, 1, rest, true), 0), both, 0);
            } else {
                rest = f.schema('&', notEmpty, fork(f, rest, false, false), 0);
            }
        }
        int end = record(f, true, 1, rest, true);
        int zero = record(f, true, 0, all, true);
        int one = record(f, true, 1, all, true);
        int either = f.schema('!', f.schema('&', f.schema('!', zero, 0, 0), f.schema('!', one, 0, 0), 0), 0, 0);
        f.bind(name, f.schema('u', end, name == 0 ? f.schema('u', zero, one, 0) : either, 0));
        return all;
    }

    private static int fork(Formwarden f, int item, boolean mustZero, boolean mustOne) {
        int o = f.schema('o', 1, 0, 0);
        f.field(o, 0, item, mustZero);
        f.field(o, 1, item, mustOne);
        return o;
    }
}

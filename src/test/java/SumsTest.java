import java.util.ArrayList;
import java.util.List;
import java.util.Random;

/**
 * Lists of lists that are of an odd, or even, number of some schemas that tell of what lies so many links further in:
 * what the smallest one is, is known from an issue, or from making all kinds of them by rising sizes.
 */
public final class SumsTest {
    private SumsTest() {
    }

    public static void main(String[] args) {
        told(7, 287);
        told(8, 319);
        Random random = new Random(15);
        for (int i = 0; i < 120; i++) {
            chance(random, i);
        }
        Check.end("SumsTest");
    }

    /** The runs that an issue told, with the answers that it told. */
    private static void told(int second, int due) {
        Formwarden f = new Formwarden();
        f.schema('r', 0, 0, 0);
        f.schema('l', 0, 2, 2);
        for (int i = 1; i <= 28; i++) {
            f.schema('l', i, 0, 4);
        }
        f.schema('l', 0, 0, 2);
        f.schema('u', 1, second, 0);
        f.schema('&', 1, second, 0);
        f.schema('!', 32, 0, 0);
        f.schema('&', 31, 33, 0);
        f.schema('u', 28, 29, 0);
        f.schema('&', 28, 29, 0);
        f.schema('!', 36, 0, 0);
        f.schema('&', 35, 37, 0);
        f.schema('u', 34, 38, 0);
        f.schema('&', 34, 38, 0);
        f.schema('!', 40, 0, 0);
        f.schema('&', 39, 41, 0);
        f.schema('&', 30, 42, 0);
        f.bind(0, 43);
        f.schema('&', 0, 1, 0);
        for (int i = 2; i <= 6; i++) {
            f.schema('&', 42 + i, i, 0);
        }
        String what = "an odd number of 1, " + second + ", 28 and 29";
        Check.due(what + ": the number of schemas", f.schemas(), 50);
        Check.due(what, f.least(49), due);
        Check.due(what + ", empty", f.isEmpty(49), false);
        Check.due(what + ", the gap", f.gap(49, 1 + second), due);
        Check.due(what + ", within what it is met from", f.isWithin(49, 48), true);
        long gaps = 0;
        for (int other = 0; other < 50; other++) {
            gaps += f.isWithin(49, other) ? 0 : f.gap(49, other);
        }
        Check.due(what + ", the gaps", f.gaps(49), gaps);
    }

    private static int odd(Formwarden f, int a, int b) {
        return f.schema('&', f.schema('u', a, b, 0), f.schema('!', f.schema('&', a, b, 0), 0, 0), 0);
    }

    private static void chance(Random random, int seed) {
        int links = 2 + random.nextInt(7);
        int most = 1 + random.nextInt(3);
        int own = random.nextInt(most + 1);
        boolean even = random.nextInt(3) == 0;
        int first = 1 + random.nextInt(Math.min(5, links));
        int taps = 2 + random.nextInt(3);
        int mask = 1;
        Formwarden f = new Formwarden();
        int name = f.schema('r', 0, 0, 0);
        int[] later = new int[links + 1];
        later[0] = f.schema('l', name, own, most);
        for (int i = 1; i <= links; i++) {
            later[i] = f.schema('l', later[i - 1], 0, 4);
        }
        int sum = later[0];
        for (int i = 1; i < taps; i++) {
            int link = 1 + random.nextInt(links);
            sum = odd(f, sum, later[link]);
            mask ^= 1 << link;
        }
        f.bind(0, f.schema('&', f.schema('l', name, 0, most), even ? f.schema('!', sum, 0, 0) : sum, 0));
        int asked = name;
        for (int i = 0; i < first; i++) {
            asked = f.schema('&', asked, later[i], 0);
        }
        int s = asked;
        int due = smallest(links, most, own, mask, even ? 0 : 1, first);
        String what = "chance " + seed;
        Check.due(what + " empty", f.isEmpty(s), due == 0);
        Check.due(what, Check.answer(() -> f.least(s)), due == 0 ? "NoSuchElementException" : Math.min(due, 1000));
    }

    /**
     * The size of the smallest such list, found by making all kinds of lists by rising sizes: a kind is told by the bits that
     * tell whether all that lies 0, 1, 2 .. links further in has so many parts.
     */
    private static int smallest(int links, int most, int own, int mask, int odd, int first) {
        int all = (2 << links) - 1;
        int goal = (1 << first) - 1;
        Rows kinds = new Rows(all);
        // What so many parts have together, by the sum of their sizes.
        Rows[] joined = new Rows[most + 1];
        for (int parts = 0; parts <= most; parts++) {
            joined[parts] = new Rows(all);
        }
        joined[0].put(all, 0);
        int greatest = 0;
        for (int sum = 0; sum <= most * greatest; sum++) {
            for (int parts = 1; parts <= most; parts++) {
                for (int size = 1; size <= sum; size++) {
                    for (int kind : kinds.at(size)) {
                        for (int bits : joined[parts - 1].at(sum - size)) {
                            joined[parts].put(kind & bits, sum);
                        }
                    }
                }
            }
            for (int parts = 0; parts <= most; parts++) {
                for (int bits : joined[parts].at(sum)) {
                    int kind = (bits << 1 | (parts >= own ? 1 : 0)) & all;
                    if (Integer.bitCount(kind & mask) % 2 == odd && kinds.put(kind, sum + 1)) {
                        greatest = sum + 1;
                        if ((kind & goal) == goal) {
                            return sum + 1;
                        }
                    }
                }
            }
        }
        return 0;
    }

    /** Rows of bits, each with the smallest size with which it came. */
    private static final class Rows {
        private final List<List<Integer>> bySize = new ArrayList<>();
        private final boolean[] seen;

        Rows(int all) {
            seen = new boolean[all + 1];
        }

        List<Integer> at(int size) {
            while (bySize.size() <= size) {
                bySize.add(new ArrayList<>());
            }
            return bySize.get(size);
        }

        boolean put(int bits, int size) {
            boolean isNew = !seen[bits];
            seen[bits] = true;
            if (isNew) {
                at(size).add(bits);
            }
            return isNew;
        }
    }
}

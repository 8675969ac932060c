import java.util.ArrayList;
import java.util.List;

/**
 * Trees of records, or of lists, in which each node hangs on those far below it: very many kinds of them have to be
 * told apart, and two that are joined make a third one. What the smallest one is, is known from making all kinds.
 */
public final class TreesTest {
    private TreesTest() {
    }

    public static void main(String[] args) {
        told();
        made();
        int[][] forms = {{4, 1, 4, 4, 2}, {7, 2, 7, 7, 2}, {9, 1, 8, 9, 3}, {11, 3, 11, 11, 2}, {10, 2, 9, 10, 4}, {12, 1, 12, 12, 3},
            {14, 1, 14, 14, 2}, {13, 2, 13, 13, 4}, {15, 4, 15, 15, 2}, {17, 3, 17, 17, 2}, {16, 5, 14, 16, 2}, {18, 6, 18, 14, 2}};
        for (int[] form : forms) {
            trees(form[0], form[1], form[2], form[3], form[4]);
        }
        lists(9, 2, 9, 9, 2);
        lists(11, 1, 11, 11, 2);
        lists(14, 1, 14, 14, 2);
        lists(16, 2, 16, 16, 2);
        chance();
        none();
        Check.end("TreesTest");
    }

    private static void least(String what, Formwarden f, int s, int due) {
        Object got = Check.answer(() -> f.least(s));
        Check.due(what, got, due == 0 ? "NoSuchElementException" : due);
        Check.due(what + " empty", f.isEmpty(s), due == 0);
    }

    /** The runs that an issue told, with the answers that it told. */
    private static void told() {
        Formwarden f = new Formwarden();
        int s = meet(f, 16, 1, 16, 16, 2);
        int none = f.schema('0', 0, 0, 0);
        Check.due("16 links: the number of schemas", s, 44);
        Check.due("16 links", f.least(s), 45);
        Check.due("16 links, the gap", f.gap(s, none), 45);
        Check.due("16 links, within what it is met from", f.isWithin(s, s - 1), true);
        Formwarden g = new Formwarden();
        int t = meet(g, 18, 4, 18, 18, 2);
        Check.due("18 links: the number of schemas", t, 48);
        Check.due("18 links", g.least(t), 42);
        Check.due("18 links, the gap", g.gap(t, g.schema('0', 0, 0, 0)), 42);
    }

    /** Values that were made and are not of what is asked for tell nothing; one that is does. */
    private static void made() {
        Formwarden f = new Formwarden();
        int s = meet(f, 14, 1, 14, 14, 2);
        int[] v = {f.value('z', 0), f.record(), f.with(f.record(), 0, 1), f.with(f.record(), 1, 1), f.list(0, 1, 2, 3)};
        int chain = f.with(f.record(), 1, f.record());
        for (int i = 0; i < 4; i++) {
            chain = f.with(f.record(), 1, chain);
        }
        for (int value : v) {
            Check.due("made, and not of it", f.isOf(value, s), false);
        }
        int none = f.schema('0', 0, 0, 0);
        Check.due("with values that were made", f.least(s), 39);
        Check.due("with values that were made, the gap", f.gap(s, none), 39);
        Check.due("with values that were made, borne out", f.isBorneOut(s, none), true);
        Check.due("what a made value is of", f.least(f.schema('u', s, f.schema('z', 0, 0, 0), 0)), 1);
        Formwarden g = new Formwarden();
        int deep = g.list(g.value('z', 0), -1, -1, -1);
        for (int i = 0; i < 4; i++) {
            deep = g.list(deep, -1, -1, -1);
        }
        int t = meet(g, 13, 2, 13, 13, 2);
        int either = g.schema('u', t, g.schema('l', g.schema('a', 0, 0, 0), 1, 1), 0);
        Check.due("a made value of it", g.isOf(deep, either), true);
        Check.due("a smaller one than was made", g.least(either), 2);
        Check.due("with a deep value", g.least(t), smallest(13, 2, 13, 13, 2));
    }

    /**
     * A tree of so many labels, such that something is at the label 1 just if one and not both is so of what lies so
     * many links on; asked is for that being so for the first ones of all links on.
     */
    private static int meet(Formwarden f, int links, int near, int far, int first, int labels) {
        int[] later = new int[links + 1];
        int all = f.schema('a', 0, 0, 0);
        later[0] = f.schema('o', 0, 0, 0);
        f.field(later[0], 1, all, true);
        for (int i = 1; i <= links; i++) {
            later[i] = f.schema('o', 0, 0, 0);
            for (int label = 0; label < labels; label++) {
                f.field(later[i], label, later[i - 1], false);
            }
        }
        int name = f.schema('r', 0, 0, 0);
        int node = f.schema('o', 1, 0, 0);
        for (int label = 0; label < labels; label++) {
            f.field(node, label, name, false);
        }
        return bound(f, name, node, later, near, far, first);
    }

    private static int bound(Formwarden f, int name, int node, int[] later, int near, int far, int first) {
        int either = f.schema('u', later[near], later[far], 0);
        int both = f.schema('&', later[near], later[far], 0);
        int one = f.schema('&', either, f.schema('!', both, 0, 0), 0);
        int so = f.schema('&', later[0], one, 0);
        int not = f.schema('!', f.schema('u', later[0], one, 0), 0, 0);
        f.bind(0, f.schema('&', node, f.schema('u', so, not, 0), 0));
        int asked = name;
        for (int i = 0; i < first; i++) {
            asked = f.schema('&', asked, later[i], 0);
        }
        return asked;
    }

    private static void trees(int links, int near, int far, int first, int labels) {
        Formwarden f = new Formwarden();
        int s = meet(f, links, near, far, first, labels);
        String what = "trees " + links + " " + near + " " + far + " " + first + " " + labels;
        least(what, f, s, smallest(links, near, far, first, labels));
    }

    /**
     * The smallest such tree, found by making all kinds of them by rising sizes: a kind is told by the bits that
     * tell whether what lies 0, 1, 2 .. links on is so.
     */
    private static int smallest(int links, int near, int far, int first, int labels) {
        int all = (1 << links) - 1;
        int goal = (1 << first) - 1;
        Layers kinds = new Layers(all);
        // What up to 0, 1, 2 .. parts at other labels than 1 have together.
        Layers[] others = new Layers[labels];
        for (int i = 0; i < labels; i++) {
            others[i] = new Layers(all);
            others[i].put(all, 0);
        }
        for (int sum = 0; sum < 300; sum++) {
            for (int i = 1; i < labels; i++) {
                for (int bits : List.copyOf(others[i - 1].at(sum))) {
                    others[i].put(bits, sum);
                }
                for (int bits : others[i - 1].joined(kinds, sum)) {
                    others[i].put(bits, sum);
                }
            }
            for (int bits : others[labels - 1].at(sum)) {
                kinds.putIfRight(bits << 1, sum + 1, near, far);
            }
            for (int bits : others[labels - 1].joined(kinds, sum)) {
                kinds.putIfRight(bits << 1 | 1, sum + 1, near, far);
            }
            for (int kind : kinds.at(sum + 1)) {
                if ((kind & goal) == goal) {
                    return sum + 1;
                }
            }
        }
        return 0;
    }

    /** Rows of bits, each with the smallest size with which it came. */
    private static final class Layers {
        private final List<List<Integer>> rows = new ArrayList<>();
        private final boolean[] seen;
        private final int all;

        Layers(int all) {
            this.all = all;
            seen = new boolean[all + 1];
        }

        List<Integer> at(int size) {
            while (rows.size() <= size) {
                rows.add(new ArrayList<>());
            }
            return rows.get(size);
        }

        void put(int bits, int size) {
            if (!seen[bits]) {
                seen[bits] = true;
                at(size).add(bits);
            }
        }

        void putIfRight(int bits, int size, int near, int far) {
            if (((bits >> near ^ bits >> far) & 1) == (bits & 1)) {
                put(bits & all, size);
            }
        }

        /** What one row and one other have together whose sizes make this sum. */
        List<Integer> joined(Layers other, int sum) {
            boolean[] found = new boolean[all + 1];
            List<Integer> rows = new ArrayList<>();
            for (int size = 1; size <= sum; size++) {
                for (int kind : other.at(size)) {
                    for (int bits : at(sum - size)) {
                        if (!found[kind & bits]) {
                            found[kind & bits] = true;
                            rows.add(kind & bits);
                        }
                    }
                }
            }
            return rows;
        }
    }

    /** Lists of lists in which it doubles the size to have two parts: whether there is such a one, of any size. */
    private static void lists(int links, int near, int far, int first, int most) {
        Formwarden f = new Formwarden();
        int[] later = new int[links + 1];
        later[0] = f.schema('l', f.schema('a', 0, 0, 0), 2, 4);
        for (int i = 1; i <= links; i++) {
            later[i] = f.schema('l', later[i - 1], 0, 4);
        }
        int name = f.schema('r', 0, 0, 0);
        int s = bound(f, name, f.schema('l', name, 0, most), later, near, far, first);
        least("lists " + links + " " + near + " " + far, f, s, 1000);
    }

    /**
     * Trees of four labels and two names, made by chance: all kinds of them of any size have to be told apart, some
     * hundred thousand, to see that none is asked for.
     */
    private static void none() {
        StringBuilder all = new StringBuilder("a r0 r1 o0,0!0 ");
        for (int i = 3; i <= 22; i++) {
            String told = "o0,0?" + i + ",1?" + i + ",2?" + i + ",3?" + i + " ";
            all.append(i == 20 ? "o0,3!0 " : told);
        }
        Formwarden f = Told.schemas(all + "o1,0?0,1!1,3?2 u20,13 &20,13 !26 &25,27 u3,28 &3,28 !30 &29,31 &24,32 =0,33"
                + " o1,0?1,2?0,3?1 u18,15 &18,15 !36 &35,37 u3,38 !39 &3,38 u41,40 &34,42 =1,43 &1,3 &44,4 &45,5 &46,6 &47,7 &48,8");
        Check.due("schemas", f.schemas(), 50);
        least("none", f, 49, 0);
    }

    /** Made by chance; what is due was found by making all kinds up to this size, elsewhere and by other means. */
    private static void chance() {
        String later = "o0,0?2,1?2 o0,0?3,1?3 o0,0?4,1?4 o0,0?5,1?5 o0,0?6,1?6 o0,0?7,1?7 o0,0?8,1?8 o0,0?9,1?9 o0,0?10,1?10"
                + " o0,0?11,1?11 o0,0?12,1?12 o0,0?13,1?13 o0,0?14,1?14 o0,0?15,1?15 o0,0?16,1?16 o0,0?17,1?17 o0,0?18,1?18"
                + " o0,0?19,1?19 o0,0?20,1?20 o0,0?21,1?21 o0,0?22,1?22 ";
        Formwarden f = Told.schemas("a r0 o0,0!0 " + later + "o0,0!0 o0,0?24,1?24 o0,0?25,1?25 o0,0?26,1?26 o1,0?1,1?0 u23,7 &23,7"
                + " !30 &29,31 u2,32 !33 &2,32 u35,34 &28,36 =0,37 &1,2 &38,3 &39,4 &40,5 &41,6 &42,7 &43,8 &44,9 &45,10 &46,11"
                + " &47,12 &48,13");
        least("chance 1", f, 49, 23);
        Formwarden g = Told.schemas("a r0 o0,1!0 " + later + "o0,0?23,1?23 o1,0?0,1?1 u24,7 &24,7 !27 &26,28 u2,29 !30 &2,29"
                + " u32,31 &25,33 =0,34 &1,2 &35,3 &36,4 &37,5 &38,6 &39,7 &40,8 &41,9 &42,10 &43,11 &44,12 &45,13 &46,14 &47,15"
                + " &48,16");
        least("chance 2", g, 49, 26);
        // The smallest tree is 21, and beside it stands a list of 22: it takes a look for just one less than that.
        Formwarden h = Told.schemas("a r0 o0,1!0 " + later + "o0,0?23,1?23 o1,0?0,1?1 u24,7 &24,7 !27 &26,28 u2,29 !30 &2,29"
                + " u32,31 &25,33 =0,34 &1,2 &35,3 &36,4 &37,5 &38,6 &39,7 &40,8 &41,9 &42,10 &43,11 z l45,4,4 l46,4,4 l47,1,1 u44,48");
        least("the list beside", h, 48, 22);
        least("chance 3", h, 49, 21);
        least("chance 3 alone", h, 44, 21);
        Check.due("chance 3 within", h.isWithin(44, 49), true);
        Check.due("chance 3, the gap", h.gap(49, 48), 21);
    }
}

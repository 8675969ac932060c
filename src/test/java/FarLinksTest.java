/**
 * Trees and lists, made by chance, in which each node hangs on those that lie very many links further in: so many kinds of them
 * would have to be told apart that they can't all be made. What is due was found by two ways that have nothing in
 * common, up from the leaves and down from the question, where both came to their end.
 */
public final class FarLinksTest {
    private FarLinksTest() {
    }

    public static void main(String[] args) {
        trees();
        lists();
        Check.end("FarLinksTest");
    }

    /** A name, and records of which each tells the same of all labels, one link after the other. */
    private static String links(String first, int count, int labels) {
        StringBuilder all = new StringBuilder("a r0 ").append(first);
        for (int i = 2; i < 2 + count; i++) {
            all.append(" o0");
            for (int label = 0; label < labels; label++) {
                all.append(',').append(label).append('?').append(i);
            }
        }
        return all.append(' ').toString();
    }

    private static String lists(String first, int from, int count) {
        StringBuilder all = new StringBuilder(first);
        for (int i = from; i < from + count; i++) {
            all.append(" l").append(i).append(",0,4");
        }
        return all.append(' ').toString();
    }

    private static void due(String what, String told, int asked, int due) {
        Formwarden f = Told.schemas(told);
        Check.due(what + ", least", Check.answer(() -> f.least(asked)), due == 0 ? "NoSuchElementException" : due);
        Check.due(what + ", empty", f.isEmpty(asked), due == 0);
    }

    private static void trees() {
        due("tree of three bits", links("o0,3!0", 23, 3) + "o1,0?1,1?1,2?1,3?0 u25,17 &25,17 !28 &27,29 u30,14 &30,14 !32 &31,33 u2,34"
            + " &2,34 !36 &35,37 &26,38 &1,2 &40,3 &41,4 &42,5 &43,6 &44,7 &45,8 &46,9 &47,10 &48,11 =0,39", 49, 49);
        due("tree of two bits", links("o0,0!0", 21, 3) + "o1,0?1,1?1,2?1,3?0 u22,20 &22,20 !26 &25,27 &2,28 u2,28 !30 u29,31 &24,32"
            + " &1,2 &34,3 &35,4 &36,5 &37,6 =0,33", 38, 77);
        due("tree of two links", links("o0,0!0", 20, 3) + "o1,0?1,1?1,2?1 u2,20 &2,20 !25 &24,26 u27,3 &27,3 !29 &28,30 &23,31 o1"
            + " u32,33 &1,2 &35,3 &36,4 &37,5 &38,6 &39,7 &40,8 &41,9 =0,34", 42, 147);
        due("tree of many links", links("o0,3!0", 27, 3) + "o1,0?1,1?1,2?1,3?0 u28,23 &28,23 !32 &31,33 &2,34 u2,34 !36 u35,37 &30,38"
            + " &1,2 &40,3 &41,4 &42,5 &43,6 &44,7 &45,8 &46,9 &47,10 &48,11 =0,39", 49, 67);
    }

    private static void lists() {
        due("lists of up to three", lists("z a r0 l1,2,4", 3, 20) + "l2,0,3 u10,23 &10,23 !26 &25,27 &3,28 u3,28 !30 u29,31 &24,32 !3 &2,34"
            + " &35,8 !22 &36,37 &38,6 &39,7 &40,8 !9 &41,42 &43,10 &44,11 &45,12 =0,33", 46, 336);
        due("lists of up to two", lists("z a r0 l1,2,4", 3, 22) + "l2,0,2 u25,6 &25,6 !28 &27,29 &3,30 u3,30 !32 u31,33 &26,34 &2,3 &36,4"
            + " &37,5 !6 &38,39 &40,9 &41,8 &42,9 =0,35", 43, 247);
        due("lists of up to four", lists("a r0 l1,2,2", 2, 21) + "l1,0,4 u21,18 &25,6 &26,3 u27,15 &27,15 !29 &28,30 &2,31 u2,31 !33 u32,34"
            + " &24,35 &1,2 &37,3 &38,4 &39,5 &40,6 =0,36", 41, 101);
        due("great lists", lists("a r0 l1,2,2", 2, 29) + "l1,0,3 u31,14 &31,14 !34 &33,35 &2,36 u2,36 !38 u37,39 &32,40 &1,2 &42,3 &43,4"
            + " &44,5 &45,6 &46,7 &47,8 &48,9 =0,41", 49, 1000);
        due("great lists of two", lists("a r0 l1,2,2", 2, 23) + "l1,0,2 u23,9 &23,9 !28 &27,29 u30,3 &30,3 !32 &31,33 u2,34 &2,34 !36 &35,37"
            + " &26,38 &1,2 &40,3 &41,4 &42,5 &43,6 &44,7 &45,8 &46,9 &47,10 &48,11 =0,39", 49, 1000);
        due("great lists of one or two", lists("a r0 l1,2,2", 2, 22) + "l1,0,2 u21,22 &21,22 !27 &26,28 u2,29 &2,29 !31 &30,32 !33 &25,34"
            + " &1,2 &36,3 &37,4 &38,5 &39,6 &40,7 &41,8 &42,9 &43,10 &44,11 &45,12 &46,13 &47,14 =0,35", 48, 1000);
        due("no such list", lists("z a r0 l1,2,4", 3, 14) + "l2,0,4 &9,15 u19,14 &19,14 !21 &20,22 &3,23 u3,23 !25 u24,26 &18,27 &2,3 !4"
            + " &29,30 &31,16 &32,9 &33,17 &34,8 &35,9 &36,10 &37,11 &38,12 =0,28", 39, 0);
    }
}

import java.util.ArrayList;
import java.util.Arrays;
import java.util.List;
import java.util.Map;
import java.util.Random;

/**
 * Small random schemas, held against all values up to a size, one by one, and against all
 * combinations of parts tried out.
 */
public final class TypesTest {
    private static final int MOST_SIZE = 4;

    private TypesTest() {
    }

    public static void main(String[] args) {
        int runs = args.length > 0 ? Integer.parseInt(args[0]) : 60;
        List<List<Model.Val>> all = allValues();
        int slow = 0;
        for (int seed = 0; seed < runs; seed++) {
            Random random = new Random(seed);
            Formwarden real = new Formwarden();
            Model model = new Model();
            make(random, real, model, 4 + random.nextInt(7));
            against(seed, real, model, all);
            slow += againstCombinations(seed, real, model);
        }
        if (slow < runs / 4) {
            Check.due("tried out", slow, "more");
        }
        Check.end("TypesTest");
    }

    /** All values by size, with leaves that are enough for the schemas made here. */
    private static List<List<Model.Val>> allValues() {
        List<List<Model.Val>> all = new ArrayList<>();
        all.add(new ArrayList<>());
        List<Model.Val> leaves = new ArrayList<>();
        leaves.add(new Model.Val('z', 0, List.of()));
        leaves.add(new Model.Val('b', 1, List.of()));
        for (int i = 0; i < 3; i++) {
            leaves.add(new Model.Val('n', i, List.of()));
            leaves.add(new Model.Val('s', i, List.of()));
        }
        leaves.add(new Model.Val('l', 0, List.of()));
        leaves.add(new Model.Val('o', 0, Arrays.asList(null, null, null, null)));
        all.add(leaves);
        for (int size = 2; size <= MOST_SIZE; size++) {
            List<Model.Val> here = new ArrayList<>();
            for (int length = 1; length <= 4; length++) {
                lists(all, new ArrayList<>(), length, size - 1, here);
            }
            records(all, new ArrayList<>(), size - 1, here);
            all.add(here);
        }
        return all;
    }

    private static void lists(List<List<Model.Val>> all, List<Model.Val> parts, int length, int left, List<Model.Val> here) {
        if (parts.size() == length) {
            if (left == 0) {
                here.add(new Model.Val('l', length, new ArrayList<>(parts)));
            }
            return;
        }
        for (int size = 1; size <= left; size++) {
            for (Model.Val v : all.get(size)) {
                parts.add(v);
                lists(all, parts, length, left - size, here);
                parts.remove(parts.size() - 1);
            }
        }
    }

    private static void records(List<List<Model.Val>> all, List<Model.Val> parts, int left, List<Model.Val> here) {
        if (parts.size() == 4) {
            if (left == 0) {
                int bits = 0;
                for (int i = 0; i < 4; i++) {
                    bits |= parts.get(i) == null ? 0 : 1 << i;
                }
                here.add(new Model.Val('o', bits, new ArrayList<>(parts)));
            }
            return;
        }
        parts.add(null);
        records(all, parts, left, here);
        parts.remove(parts.size() - 1);
        for (int size = 1; size <= left; size++) {
            for (Model.Val v : all.get(size)) {
                parts.add(v);
                records(all, parts, left - size, here);
                parts.remove(parts.size() - 1);
            }
        }
    }

    private static void make(Random random, Formwarden real, Model model, int count) {
        while (model.schemas.size() < count) {
            int n = model.schemas.size();
            char kind = "a0znslllooooouu&&!!rr".charAt(random.nextInt(21));
            if ("lu&!".indexOf(kind) >= 0 && n == 0) {
                continue;
            }
            int a = kind == 'n' ? random.nextInt(2) : kind == 's' ? 1 + random.nextInt(3) : kind == 'o' ? random.nextInt(2)
                    : kind == 'r' ? random.nextInt(2) : n == 0 ? 0 : random.nextInt(n);
            int b = kind == 'n' ? 1 : kind == 'l' ? random.nextInt(3) : n == 0 ? 0 : random.nextInt(n);
            int c = b + random.nextInt(5 - Math.min(b, 4));
            Check.due("schema", real.schema(kind, a, b, c), model.schema(kind, a, b, c));
            for (int label = 0; label < 2 && kind == 'o' && n > 0; label++) {
                if (random.nextInt(4) > 0) {
                    int item = random.nextInt(n);
                    boolean must = random.nextInt(3) > 0;
                    Check.due("field", real.field(n, label, item, must), model.field(n, label, item, must));
                }
            }
        }
        for (int name = 0; name < 2; name++) {
            int x = name;
            int s = random.nextInt(count);
            Check.due("bind", Check.answer(() -> real.bind(x, s)), Check.answer(() -> model.bind(x, s)));
        }
    }

    private static void against(int seed, Formwarden real, Model model, List<List<Model.Val>> all) {
        int count = model.schemas.size();
        int[] least = new int[count * (count + 1)];
        for (int size = 1; size <= MOST_SIZE; size++) {
            for (Model.Val v : all.get(size)) {
                boolean[] is = new boolean[count];
                for (int s = 0; s < count; s++) {
                    is[s] = model.is(v, s);
                }
                for (int s = 0; s < count; s++) {
                    for (int t = 0; t <= count; t++) {
                        if (least[s * (count + 1) + t] == 0 && is[s] && (t == count || !is[t])) {
                            least[s * (count + 1) + t] = size;
                        }
                    }
                }
            }
        }
        for (int s = 0; s < count; s++) {
            for (int t = 0; t <= count; t++) {
                int x = s;
                int y = t;
                Object got = Check.answer(() -> y == count ? real.least(x) : real.gap(x, y));
                int due = least[s * (count + 1) + t];
                String what = "seed " + seed + " gap " + s + " " + t;
                if (due > 0) {
                    Check.due(what, got, due);
                } else {
                    boolean larger = got.equals("NoSuchElementException") || (int) got > MOST_SIZE;
                    Check.due(what + " " + got + " is more", larger, true);
                }
            }
        }
    }

    private static int againstCombinations(int seed, Formwarden real, Model model) {
        Map<Long, Integer> types = model.types(false);
        if (types.size() > 11) {
            return 0;
        }
        Check.due("seed " + seed + " types", types, model.types(true));
        for (int s = 0; s < model.schemas.size(); s++) {
            Check.due("seed " + seed + " empty " + s, real.isEmpty(s), model.smallest(types, s, -1) == 0);
            for (int t = 0; t < model.schemas.size(); t++) {
                Check.due("seed " + seed + " within " + s + " " + t, real.isWithin(s, t), model.smallest(types, s, t) == 0);
            }
        }
        return 1;
    }
}

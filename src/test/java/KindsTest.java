import java.util.Map;
import java.util.Random;

/** Random schemas of many forms: all gaps, held against all kinds of values that the schemas tell apart. */
public final class KindsTest {
    private static final String[] MIXES = {"a0zbnslloooouu&&!!rr", "nsooooouu&&!!r", "nsooooooouuuuu&!r",
        "nnlllloooouuu&&&!!!rrr", "nsloooouu&&&&!!!!rr", "nsslllllluuu&&&!!!rr", "ooooooooouu&&!!rr"};

    private KindsTest() {
    }

    public static void main(String[] args) {
        int runs = args.length > 0 ? Integer.parseInt(args[0]) : 1000;
        int known = 0;
        for (int seed = 0; seed < runs; seed++) {
            known += run(seed);
        }
        Check.due("most are known", known > runs / 2, true);
        Check.end("KindsTest");
    }

    private static int run(int seed) {
        Random random = new Random(seed);
        Formwarden real = new Formwarden();
        Model model = new Model();
        make(random, MIXES[seed % MIXES.length], real, model);
        Map<Long, Integer> kinds;
        try {
            kinds = model.types(false);
        } catch (Model.TooMuch e) {
            return 0;
        }
        int count = model.schemas.size();
        for (int s = 0; s < count; s++) {
            for (int t = -1; t < count; t++) {
                int x = s;
                int y = t;
                int due = s == t ? 0 : model.smallest(kinds, s, t);
                Object got = Check.answer(() -> y < 0 ? real.least(x) : real.gap(x, y));
                Check.due("seed " + seed + " gap " + s + " " + t, got, due == 0 ? "NoSuchElementException" : due);
            }
        }
        return 1;
    }

    private static void make(Random random, String mix, Formwarden real, Model model) {
        int leaves = 2 + random.nextInt(4);
        int total = 8 + random.nextInt(random.nextBoolean() ? 12 : 43);
        int names = 1 + random.nextInt(6);
        int near = 3 + random.nextInt(15);
        for (int n = 0; n < total; n++) {
            char kind = n == 0 ? 'r' : n < leaves ? random.nextBoolean() ? 'n' : 's' : mix.charAt(random.nextInt(mix.length()));
            int low = random.nextInt(3) == 0 ? 0 : Math.max(0, n - near);
            int a = n == 0 ? 0 : low + random.nextInt(n - low);
            int b = n == 0 ? 0 : low + random.nextInt(n - low);
            int c = 0;
            if (kind == 'n') {
                a = random.nextInt(30);
                b = a + random.nextInt(20);
            } else if (kind == 's') {
                a = random.nextInt(1024);
            } else if (kind == 'l') {
                b = random.nextInt(4);
                c = b + random.nextInt(5 - b);
            } else if (kind == 'o') {
                a = random.nextInt(3) == 0 ? 1 : 0;
            } else if (kind == 'r') {
                a = random.nextInt(names);
            }
            Check.due("schema", real.schema(kind, a, b, c), model.schema(kind, a, b, c));
            for (int i = random.nextInt(4); i >= 0 && kind == 'o' && n > 0; i--) {
                int label = random.nextInt(4);
                int item = low + random.nextInt(n - low);
                boolean must = random.nextInt(3) > 0;
                Check.due("field", real.field(n, label, item, must), model.field(n, label, item, must));
            }
        }
        for (int name = 0; name < names; name++) {
            bind(random, name, total, real, model);
        }
    }

    private static void bind(Random random, int name, int total, Formwarden real, Model model) {
        Object got = "UnsupportedOperationException";
        for (int i = 0; i < 6 && got.equals("UnsupportedOperationException"); i++) {
            int schema = random.nextInt(total);
            got = Check.answer(() -> real.bind(name, schema));
            Check.due("bind", got, Check.answer(() -> model.bind(name, schema)));
        }
    }
}

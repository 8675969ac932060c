import java.util.Random;

/** Random runs of calls, on Formwarden and on the model of the document, with the same answers due. */
public final class ModelTest {
    private static final String SCHEMA_KINDS = "a0zbnnssllloooooouuu&&!!rrr?";
    private static final String STEP_KINDS = "rdanwsrdanws?";

    private final Random random;
    private final int bent;
    private Formwarden real;
    private Model model;

    private ModelTest(int seed) {
        random = new Random(seed);
        bent = seed % 4;
        real = new Formwarden();
        model = new Model();
    }

    public static void main(String[] args) {
        int runs = args.length > 0 ? Integer.parseInt(args[0]) : 400;
        for (int seed = 0; seed < runs; seed++) {
            new ModelTest(seed).run(seed);
        }
        Check.end("ModelTest");
    }

    private void run(int seed) {
        int calls = seed % 5 == 0 ? 510 : 40 + random.nextInt(200);
        for (int i = 0; i < calls; i++) {
            call("run " + seed + " call " + i + ": ");
        }
    }

    private void both(String what, Check.Call got, Check.Call want) {
        Object due = Check.answer(want);
        Object answer = Check.answer(got);
        if (!due.equals("TooMuch")) {
            Check.due(what, answer, due);
        }
    }

    /** Mostly a number below the bound, sometimes one out of bounds. */
    private int pick(int bound) {
        if (random.nextInt(40) == 0) {
            return random.nextInt(3) == 0 ? bound + random.nextInt(2) : -1 - random.nextInt(2);
        }
        return bound == 0 ? 0 : random.nextInt(bound);
    }

    /** Mostly one of the newest. */
    private int pickLate(int bound) {
        int from = Math.max(0, bound - 12);
        return random.nextInt(3) > 0 && bound > 0 ? from + random.nextInt(bound - from) : pick(bound);
    }

    private int value() {
        return pickLate(model.values.size());
    }

    private int valueOrNone() {
        return random.nextInt(4) == 0 ? -1 : value();
    }

    private int scheme() {
        return pickLate(model.schemas.size());
    }

    private int recordValue() {
        for (int i = 0; i < 20; i++) {
            int v = value();
            if (v >= 0 && v < model.values.size() && model.values.get(v).kind() == 'o') {
                return v;
            }
        }
        return value();
    }

    private void call(String at) {
        int group = random.nextInt(bent == 0 ? 100 : bent == 1 ? 60 : bent == 2 ? 140 : 180);
        if (group < 30) {
            makeValue(at);
        } else if (group < 60) {
            group = random.nextInt(10);
            if (group < 7) {
                makeSchema(at);
            } else {
                askSchemas(at);
            }
        } else if (group < 75) {
            view(at);
        } else if (group < 85) {
            samples(at);
        } else if (group < 100) {
            askValues(at);
        } else if (group < 140) {
            askFaults(at);
        } else {
            askSchemas(at);
        }
    }

    private void makeValue(String at) {
        switch (random.nextInt(6)) {
            case 0, 1: {
                char kind = "zbnnsssq".charAt(random.nextInt(8));
                int number = random.nextInt(8) == 0 ? random.nextInt(300) - 150 : random.nextInt(bent == 0 ? 3 : 12) - 1;
                both(at + "value " + kind + " " + number, () -> real.value(kind, number), () -> model.value(kind, number));
                break;
            }
            case 2: {
                int length = random.nextInt(5);
                int[] p = {-1, -1, -1, -1};
                for (int i = 0; i < length; i++) {
                    p[i] = value();
                }
                if (random.nextInt(20) == 0) {
                    p[random.nextInt(4)] = -1;
                }
                both(at + "list " + java.util.Arrays.toString(p), () -> real.list(p[0], p[1], p[2], p[3]), () -> model.list(p));
                break;
            }
            case 3:
                both(at + "record", () -> real.record(), () -> model.record());
                break;
            default: {
                int r = recordValue();
                int l = pick(4);
                int v = valueOrNone();
                both(at + "with " + r + " " + l + " " + v, () -> real.with(r, l, v), () -> model.with(r, l, v));
                break;
            }
        }
    }

    private int number(int bound) {
        return random.nextInt(12) == 0 ? random.nextInt(300) - 150 : random.nextInt(bound);
    }

    private void makeSchema(String at) {
        int what = random.nextInt(10);
        if (what < 5) {
            char kind = SCHEMA_KINDS.charAt(random.nextInt(SCHEMA_KINDS.length()));
            boolean parts = "lu&!".indexOf(kind) >= 0;
            int a = parts ? scheme() : kind == 's' ? number(1024) : kind == 'o' ? number(2) : kind == 'r' ? number(6) : number(6) - 2;
            int b = kind == 'l' ? number(4) : kind == 'n' ? a + random.nextInt(6) - 1 : scheme();
            int c = kind == 'l' ? b + random.nextInt(4) : random.nextInt(10);
            both(at + "schema " + kind + " " + a + " " + b + " " + c, () -> real.schema(kind, a, b, c), () -> model.schema(kind, a, b, c));
        } else if (what < 8) {
            int s = recordScheme();
            int l = pick(4);
            int item = random.nextInt(8) == 0 ? -1 : s > 0 && random.nextInt(10) > 0 ? random.nextInt(s) : scheme();
            boolean must = random.nextBoolean();
            both(at + "field " + s + " " + l + " " + item + " " + must, () -> real.field(s, l, item, must), () -> model.field(s, l, item, must));
        } else {
            int name = pick(6);
            int s = scheme();
            both(at + "bind " + name + " " + s, () -> real.bind(name, s), () -> model.bind(name, s));
        }
    }

    private int recordScheme() {
        for (int i = 0; i < 20; i++) {
            int s = scheme();
            if (s >= 0 && s < model.schemas.size() && model.schemas.get(s).kind == 'o') {
                return s;
            }
        }
        return scheme();
    }

    private void askValues(String at) {
        int v = value();
        int i = pick(4);
        both(at + "values", () -> real.values(), () -> model.values.size());
        both(at + "kindOf " + v, () -> real.kindOf(v), () -> model.kindOf(v));
        both(at + "numberOf " + v, () -> real.numberOf(v), () -> model.numberOf(v));
        both(at + "part " + v + " " + i, () -> real.part(v, i), () -> model.part(v, i));
        both(at + "size " + v, () -> real.size(v), () -> model.size(v));
        both(at + "meanSize", () -> real.meanSize(), () -> model.meanSize());
    }

    private void askFaults(String at) {
        int v = value();
        int s = scheme();
        both(at + "isOf " + v + " " + s, () -> real.isOf(v, s), () -> model.isOf(v, s));
        if (random.nextInt(3) > 0) {
            Object due = Check.answer(() -> model.faults(v, s));
            Object got = Check.answer(() -> real.faults(v, s));
            if (due.equals("TooMuch")) {
                model.found.clear();
                real.faults(0, 0);
                model.faults(0, 0);
                return;
            }
            Check.due(at + "faults " + v + " " + s, got, due);
        }
        for (int k = 0; k < 4; k++) {
            int i = k < 3 ? k : pick(model.found.size());
            both(at + "faultAt " + i, () -> real.faultAt(i), () -> model.faultAt(i));
            both(at + "pathAt " + i, () -> real.pathAt(i), () -> model.pathAt(i));
        }
        both(at + "share " + s, () -> real.share(s), () -> model.share(s));
    }

    private void askSchemas(String at) {
        int s = scheme();
        int t = scheme();
        switch (random.nextInt(8)) {
            case 0:
                both(at + "schemas", () -> real.schemas(), () -> model.schemas.size());
                both(at + "isEmpty " + s, () -> real.isEmpty(s), () -> model.isEmpty(s));
                break;
            case 1:
                both(at + "least " + s, () -> real.least(s), () -> model.least(s));
                break;
            case 2:
                both(at + "gaps " + s, () -> real.gaps(s), () -> model.gaps(s));
                break;
            case 3:
                both(at + "isBorneOut " + s + " " + t, () -> real.isBorneOut(s, t), () -> model.isBorneOut(s, t));
                break;
            case 4, 5:
                both(at + "isWithin " + s + " " + t, () -> real.isWithin(s, t), () -> model.isWithin(s, t));
                break;
            default:
                both(at + "gap " + s + " " + t, () -> real.gap(s, t), () -> model.gap(s, t));
                break;
        }
    }

    private void view(String at) {
        switch (random.nextInt(10)) {
            case 0, 1, 2, 3: {
                char kind = STEP_KINDS.charAt(random.nextInt(STEP_KINDS.length()));
                int a = pick(4);
                int b = kind == 'a' ? value() : kind == 's' ? pick(10) : pick(4);
                both(at + "step " + kind + " " + a + " " + b, () -> real.step(kind, a, b), () -> model.step(kind, a, b));
                break;
            }
            case 4:
                both(at + "clearSteps", () -> real.clearSteps(), () -> model.clearSteps());
                break;
            case 5, 6: {
                int r = recordValue();
                both(at + "get " + r, () -> real.get(r), () -> model.get(r));
                break;
            }
            case 7, 8: {
                int r = recordValue();
                int v = recordValue();
                both(at + "put " + r + " " + v, () -> real.put(r, v), () -> model.put(r, v));
                break;
            }
            default:
                merge(at);
                break;
        }
    }

    private void merge(String at) {
        int first = recordValue();
        int one = recordValue();
        int other = random.nextInt(4) == 0 ? value() : recordValue();
        both(at + "merge " + first + " " + one + " " + other, () -> real.merge(first, one, other), () -> model.merge(first, one, other));
        both(at + "conflicts", () -> real.conflicts(), () -> model.conflicts);
    }

    private void samples(String at) {
        int s = scheme();
        switch (random.nextInt(6)) {
            case 0, 1, 2: {
                int v = value();
                both(at + "sample " + v, () -> real.sample(v), () -> model.sample(v));
                break;
            }
            case 3:
                both(at + "infer", () -> real.infer(), () -> model.infer());
                both(at + "schemas", () -> real.schemas(), () -> model.schemas.size());
                break;
            case 4:
                both(at + "fits " + s, () -> real.fits(s), () -> model.fits(s));
                break;
            default:
                both(at + "clearSamples", () -> real.clearSamples(), () -> model.clearSamples());
                break;
        }
    }
}

import java.lang.reflect.InvocationTargetException;
import java.lang.reflect.Method;
import java.util.Arrays;
import java.util.Comparator;
import java.util.Random;

/** Every call with every kind of argument throws nothing but what its promise names, and exactly that. */
public final class ExtremesTest {
    private static final int[] NUMBERS = {Integer.MIN_VALUE, -1000, -100, -99, -2, -1, 0, 1, 2, 3, 4, 5, 6, 7, 9, 10, 49,
        50, 51, 99, 100, 199, 200, 201, 250, 599, 600, 1023, 1024, Integer.MAX_VALUE};
    private static final char[] KINDS = "a0zbnslou&!rdwx \0\uffff".toCharArray();

    private ExtremesTest() {
    }

    public static void main(String[] args) throws IllegalAccessException {
        Method[] face = Formwarden.class.getMethods();
        face = Arrays.stream(face).filter(m -> m.getDeclaringClass() == Formwarden.class)
                .sorted(Comparator.comparing(Method::toString)).toArray(Method[]::new);
        for (int seed = 0; seed < 300; seed++) {
            Random random = new Random(seed);
            Formwarden f = new Formwarden();
            if (seed % 3 > 0) {
                fill(f, random, seed % 3 == 1 ? 20 : 200);
            }
            for (int call = 0; call < 400; call++) {
                once(f, face[random.nextInt(face.length)], random);
            }
        }
        Check.end("ExtremesTest");
    }

    private static void fill(Formwarden f, Random random, int count) {
        for (int i = 0; i < count; i++) {
            int n = i;
            Check.answer(() -> f.value('n', n % 199 - 99));
            Check.answer(() -> f.with(f.record(), random.nextInt(4), random.nextInt(f.values())));
            Check.answer(() -> f.list(random.nextInt(f.values()), random.nextInt(f.values()), -1, -1));
            Check.answer(() -> f.schema(KINDS[n % 12], random.nextInt(6), random.nextInt(3), 4));
            Check.answer(() -> f.field(n % 50, n % 4, random.nextInt(n + 1), random.nextBoolean()));
            Check.answer(() -> f.bind(n % 6, random.nextInt(f.schemas())));
        }
    }

    private static void once(Formwarden f, Method m, Random random) throws IllegalAccessException {
        Object[] told = new Object[m.getParameterCount()];
        for (int i = 0; i < told.length; i++) {
            Class<?> type = m.getParameterTypes()[i];
            if (type == char.class) {
                told[i] = KINDS[random.nextInt(KINDS.length)];
            } else if (type == boolean.class) {
                told[i] = random.nextBoolean();
            } else {
                told[i] = NUMBERS[random.nextInt(NUMBERS.length)];
            }
        }
        String what = m.getName() + Arrays.toString(told);
        int before = f.values() * 1000 + f.schemas() * 10 + f.conflicts();
        try {
            m.invoke(f, told);
            Check.due(what, true, true);
        } catch (InvocationTargetException e) {
            Class<?> thrown = e.getCause().getClass();
            Check.due(what + " threw " + thrown, Arrays.asList(m.getExceptionTypes()).contains(thrown), true);
            Check.due(what + " threw by itself", e.getCause().getStackTrace()[0].getClassName(), "Formwarden");
            Check.due(what + " changed nothing", f.values() * 1000 + f.schemas() * 10 + f.conflicts(), before);
        }
    }
}

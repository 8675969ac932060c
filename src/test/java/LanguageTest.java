import java.io.IOException;
import java.lang.reflect.Field;
import java.lang.reflect.Method;
import java.lang.reflect.Modifier;
import java.nio.file.Files;
import java.nio.file.Path;
import java.util.ArrayList;
import java.util.Arrays;
import java.util.List;
import java.util.Set;
import java.util.TreeSet;
import java.util.regex.Matcher;
import java.util.regex.Pattern;

/** What of ../shared/LANGUAGE.md can be seen from the source and from the compiled class. */
public final class LanguageTest {
    private static final Path SOURCE = Path.of("src/main/java/Formwarden.java");

    private static final String[] FACE = {
        "int value(char,int) IllegalArgumentException IllegalStateException",
        "int list(int,int,int,int) IndexOutOfBoundsException IllegalArgumentException"
            + " UnsupportedOperationException IllegalStateException",
        "int record() IllegalStateException",
        "int with(int,int,int) IndexOutOfBoundsException IllegalArgumentException UnsupportedOperationException"
            + " IllegalStateException",
        "int values()",
        "char kindOf(int) IndexOutOfBoundsException",
        "int numberOf(int) IndexOutOfBoundsException",
        "int part(int,int) IndexOutOfBoundsException NoSuchElementException",
        "int size(int) IndexOutOfBoundsException",
        "int schema(char,int,int,int) IllegalArgumentException IndexOutOfBoundsException IllegalStateException",
        "boolean field(int,int,int,boolean) IndexOutOfBoundsException IllegalArgumentException",
        "int bind(int,int) IndexOutOfBoundsException UnsupportedOperationException",
        "int schemas()",
        "boolean isOf(int,int) IndexOutOfBoundsException",
        "int faults(int,int) IndexOutOfBoundsException",
        "char faultAt(int) IndexOutOfBoundsException",
        "int pathAt(int) IndexOutOfBoundsException",
        "boolean isEmpty(int) IndexOutOfBoundsException",
        "boolean isWithin(int,int) IndexOutOfBoundsException",
        "int gap(int,int) IndexOutOfBoundsException NoSuchElementException",
        "int least(int) IndexOutOfBoundsException NoSuchElementException",
        "int step(char,int,int) IllegalArgumentException IndexOutOfBoundsException IllegalStateException",
        "int clearSteps()",
        "int get(int) IndexOutOfBoundsException UnsupportedOperationException IllegalStateException",
        "int put(int,int) IndexOutOfBoundsException UnsupportedOperationException IllegalStateException",
        "int merge(int,int,int) IndexOutOfBoundsException IllegalStateException",
        "int conflicts()",
        "int sample(int) IndexOutOfBoundsException IllegalStateException",
        "int clearSamples()",
        "int infer() IllegalStateException",
        "boolean fits(int) IndexOutOfBoundsException",
        "long gaps(int) IndexOutOfBoundsException",
        "float share(int) IndexOutOfBoundsException ArithmeticException",
        "double meanSize() ArithmeticException",
        "boolean isBorneOut(int,int) IndexOutOfBoundsException"};

    private static final String[] BARRED = {"->", "::", "\\btry\\b", "\\bcatch\\b", "\\bfinally\\b",
        "\\bsynchronized\\b", "\\bassert\\b", "static \\{", "\" \\+", "\\+ \"", "\\bthrow (?!new )", "\\binstanceof\\b",
        "System\\.(?!arraycopy)", "Arrays\\.(?!fill|copyOf|copyOfRange)", "Math\\.(?!min|max|abs)", "\\bExact\\b",
        "Thread", "Random", "\\bwhile\\b", "[^\\x00-\\x7f]"};

    private LanguageTest() {
    }

    public static void main(String[] args) throws IOException {
        face();
        classes();
        source(Files.readString(SOURCE));
        Calls.look();
        Check.end("LanguageTest");
    }

    private static void face() {
        Set<String> got = new TreeSet<>();
        for (Method m : Formwarden.class.getDeclaredMethods()) {
            if (!Modifier.isPrivate(m.getModifiers())) {
                got.add(told(m));
                Check.due("public " + m.getName(), Modifier.isPublic(m.getModifiers()), true);
            }
        }
        Check.due("the face", got, new TreeSet<>(Arrays.asList(FACE)));
        for (Field f : Formwarden.class.getDeclaredFields()) {
            Check.due("private " + f.getName(), Modifier.isPrivate(f.getModifiers()), true);
        }
        Check.due("constructors", Formwarden.class.getConstructors().length, 1);
        Check.due("final", Modifier.isFinal(Formwarden.class.getModifiers()), true);
    }

    private static String told(Method m) {
        StringBuilder all = new StringBuilder(m.getReturnType().getSimpleName()).append(' ').append(m.getName()).append('(');
        for (int i = 0; i < m.getParameterCount(); i++) {
            all.append(i > 0 ? "," : "").append(m.getParameterTypes()[i].getSimpleName());
        }
        all.append(')');
        for (Class<?> e : m.getExceptionTypes()) {
            all.append(' ').append(e.getSimpleName());
        }
        return all.toString();
    }

    private static void classes() {
        Class<?>[] inside = Formwarden.class.getDeclaredClasses();
        Check.due("some twelve classes", inside.length <= 12, true);
        Set<String> names = new TreeSet<>();
        for (Method m : Formwarden.class.getDeclaredMethods()) {
            if (Modifier.isPublic(m.getModifiers())) {
                names.add(m.getName());
            }
        }
        List<Class<?>> all = new ArrayList<>(Arrays.asList(inside));
        all.add(Formwarden.class);
        for (Class<?> c : all) {
            int fields = 0;
            for (Field f : c.getDeclaredFields()) {
                fields += Modifier.isStatic(f.getModifiers()) ? 0 : 1;
                Check.due("static and final " + f, !Modifier.isStatic(f.getModifiers()) || Modifier.isFinal(f.getModifiers()), true);
            }
            Check.due("some twenty fields in " + c.getSimpleName() + ": " + fields, fields <= 20, true);
            for (Method m : c.getDeclaredMethods()) {
                Check.due("parameters of " + m.getName(), m.getParameterCount() <= 7, true);
                Check.due("a name of the face: " + m, names.contains(m.getName()) && !Modifier.isPublic(m.getModifiers()), false);
            }
        }
    }

    private static void source(String text) {
        List<String> imports = new ArrayList<>();
        Matcher m = Pattern.compile("(?m)^import (.*);$").matcher(text);
        while (m.find()) {
            imports.add(m.group(1));
        }
        Check.due("imports", imports, List.of("java.util.Arrays", "java.util.NoSuchElementException"));
        String code = text.replaceAll("(?s)/\\*.*?\\*/", "").replaceAll("//.*", "");
        for (String barred : BARRED) {
            Matcher found = Pattern.compile(barred).matcher(code);
            Check.due("not allowed: " + barred, found.find() ? found.group() : "nothing", "nothing");
        }
        lengths(text.split("\n"));
    }

    /** Methods end at a brace that stands as far in as their first line. */
    private static void lengths(String[] lines) {
        Pattern start = Pattern.compile("^( {4}| {8})(?:(?:public|private|static|final) )*[\\w\\[\\]]+ \\w+\\(.*[^;]$");
        for (int i = 0; i < lines.length; i++) {
            Matcher m = start.matcher(lines[i]);
            if (m.find()) {
                int end = i;
                while (end < lines.length && !lines[end].equals(m.group(1) + "}")) {
                    end++;
                }
                Check.due("short enough: " + lines[i].trim(), end - i <= 60, true);
            }
        }
    }
}

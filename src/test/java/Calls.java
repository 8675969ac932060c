import java.io.IOException;
import java.io.PrintWriter;
import java.io.StringWriter;
import java.net.URISyntaxException;
import java.nio.file.Files;
import java.nio.file.Path;
import java.util.ArrayList;
import java.util.Collections;
import java.util.HashMap;
import java.util.HashSet;
import java.util.List;
import java.util.Map;
import java.util.Optional;
import java.util.Set;
import java.util.TreeSet;
import java.util.regex.Matcher;
import java.util.regex.Pattern;
import java.util.spi.ToolProvider;
import java.util.stream.Stream;

/** How deep the class's own calls go, as the compiled classes tell it; calls that are recursion don't count. */
final class Calls {
    private static final int MOST = 8;

    private static final Map<String, Set<String>> CALLED = new HashMap<>();

    private Calls() {
    }

    /** Nothing is looked at where javac comes without the tool that tells what stands in a compiled class. */
    static void look() throws IOException {
        Optional<ToolProvider> tool = ToolProvider.findFirst("javap");
        if (tool.isEmpty()) {
            return;
        }
        List<String> arguments = new ArrayList<>(List.of("-p", "-c"));
        try (Stream<Path> files = Files.list(folder())) {
            files.map(Path::toString).filter(f -> f.matches(".*Formwarden(\\$\\w+)?\\.class")).forEach(arguments::add);
        }
        StringWriter told = new StringWriter();
        tool.get().run(new PrintWriter(told), new PrintWriter(told), arguments.toArray(new String[0]));
        gather(told.toString().split("\n"));
        Check.due("methods were found", CALLED.size() > 100, true);
        for (String method : new TreeSet<>(CALLED.keySet())) {
            int depth = depth(method, new HashSet<>());
            Check.due("calls of " + method + " go no more than eight deep", depth <= MOST ? MOST : depth, MOST);
        }
    }

    private static Path folder() throws IOException {
        try {
            return Path.of(Formwarden.class.getProtectionDomain().getCodeSource().getLocation().toURI());
        } catch (URISyntaxException e) {
            throw new IOException(e);
        }
    }

    private static void gather(String[] lines) {
        Pattern isClass = Pattern.compile("^(?:\\w+ )*class (\\S+).*");
        Pattern isMethod = Pattern.compile("^  (?! ).*?([\\w$]+)\\(.*\\).*;$");
        Pattern isCall = Pattern.compile(".*// Method (?:([\\w$]+)\\.)?\"?([\\w<>]+)\"?:.*");
        String inside = "";
        String method = "";
        for (String line : lines) {
            Matcher m = isClass.matcher(line);
            if (m.matches()) {
                inside = m.group(1);
            } else if ((m = isMethod.matcher(line)).matches()) {
                method = inside + "." + (m.group(1).equals(inside) ? "<init>" : m.group(1));
                CALLED.putIfAbsent(method, new TreeSet<>());
            } else if ((m = isCall.matcher(line)).matches() && !method.isEmpty()) {
                String owner = m.group(1) == null ? inside : m.group(1);
                if (owner.startsWith("Formwarden")) {
                    CALLED.get(method).add(owner + "." + m.group(2));
                }
            }
        }
    }

    private static int depth(String method, Set<String> standing) {
        int deepest = 0;
        if (standing.add(method)) {
            for (String other : CALLED.getOrDefault(method, Collections.emptySet())) {
                deepest = Math.max(deepest, standing.contains(other) ? 0 : depth(other, standing));
            }
            standing.remove(method);
        }
        return deepest + 1;
    }
}

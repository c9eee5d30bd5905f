import java.lang.reflect.InvocationTargetException;
import java.lang.reflect.Method;
import java.lang.reflect.Modifier;
import java.net.URL;
import java.net.URLClassLoader;
import java.nio.file.Files;
import java.nio.file.Path;
import java.util.ArrayList;
import java.util.Arrays;
import java.util.List;
import java.util.Set;
import java.util.TreeSet;
import java.util.regex.Matcher;
import java.util.regex.Pattern;
import javax.tools.JavaCompiler;
import javax.tools.ToolProvider;

/** README.md: its examples are compiled and run, and its tables name the calls that there are. */
public final class ReadmeTest {
    private static final Pattern BLOCK = Pattern.compile("(?s)```java\n(.*?)```");
    private static final Pattern ROW = Pattern.compile("\\| `(\\w+)\\(([^)]*)\\)` \\|");
    private static final Pattern CALL =
            Pattern.compile("(house\\.\\w+\\(.*\\)); +// (throws )?(-?\\w+).*");

    public static void main(String[] args) throws Exception {
        String text = Files.readString(Path.of("README.md"));
        tables(text);
        examples(text);
        Due.end("ReadmeTest");
    }

    /** A row tells a call's name and how many arguments it takes, by the document's names. */
    private static void tables(String text) throws Exception {
        String face = Files.readString(Path.of("../shared/DOC.md"));
        Set<String> named = new TreeSet<>();
        Matcher row = ROW.matcher(text);
        while (row.find()) {
            String due = row.group(1) + "(" + row.group(2) + ")";
            Pattern told = Pattern.compile("public \\w+ " + row.group(1) + "\\(([^)]*)\\)");
            Matcher m = told.matcher(face);
            Due.yes(due + " is in the document", m.find()
                    && row.group(2).equals(m.group(1).replaceAll("(int|long) ", "")));
            Due.yes(due + " is named once", named.add(row.group(1)));
        }
        for (Method method : FlowHouse.class.getDeclaredMethods()) {
            if (method.getModifiers() == Modifier.PUBLIC) {
                Due.yes(method.getName() + " is in a table", named.contains(method.getName()));
            }
        }
        for (String name : List.of("UNKNOWN", "OUTSIDE", "NO", "FULL")) {
            long value = FlowHouse.class.getField(name).getInt(null);
            Due.yes(name + " is told", text.contains("| " + value + " | `" + name + "` |"));
        }
    }

    /** Each block is a method of its own; those that are methods already are at hand for all. */
    private static void examples(String text) throws Exception {
        StringBuilder helpers = new StringBuilder();
        List<String> bodies = new ArrayList<>();
        Set<String> used = new TreeSet<>();
        Matcher block = BLOCK.matcher(text);
        while (block.find()) {
            noteCalls(block.group(1), used);
            if (block.group(1).startsWith("static ")) {
                helpers.append(block.group(1));
            } else {
                bodies.add(checked(block.group(1)));
            }
        }
        Due.same("calls that examples have, " + used, used.size(), 55);
        StringBuilder all = new StringBuilder("public final class Examples {\n");
        all.append("    private static final int UNKNOWN = -1, OUTSIDE = -2, NO = -3, FULL = -4;\n");
        all.append("    private static final long NOTHING = Long.MIN_VALUE;\n");
        all.append("    public static void same(String call, long got, long want) {\n");
        all.append("        if (got != want) {\n");
        all.append("            throw new IllegalStateException(call + \" answered \" + got);\n");
        all.append("        }\n    }\n");
        all.append(helpers);
        for (int i = 0; i < bodies.size(); i++) {
            all.append("public static void example").append(i).append("() {\n");
            all.append(bodies.get(i)).append("}\n");
        }
        run(all.append("}\n").toString(), bodies.size());
    }

    /** Each call with an answer behind it becomes a look at that answer. */
    private static String checked(String block) {
        StringBuilder all = new StringBuilder();
        for (String line : block.split("\n")) {
            Matcher m = CALL.matcher(line);
            if (!m.matches()) {
                Due.yes(line + " has an answer", !line.startsWith("house."));
                all.append(line).append('\n');
                continue;
            }
            String call = m.group(1);
            String answer = m.group(3);
            String end = answer.matches("-?\\d+") ? "L);\n" : ");\n";
            if (m.group(2) == null) {
                all.append("same(\"" + call + "\", " + call + ", " + answer + end);
            } else {
                all.append("try { same(\"" + call + "\", " + call + ", NOTHING + 1); }\n");
                all.append("catch (" + answer + " e) { same(\"as due\", 0, 0); }\n");
            }
            Due.yes("looked at", true);
        }
        return all.toString();
    }

    private static void noteCalls(String block, Set<String> used) {
        Matcher m = Pattern.compile("house\\.(\\w+)\\(").matcher(block);
        while (m.find()) {
            used.add(m.group(1));
        }
    }

    private static void run(String source, int examples) throws Exception {
        Path place = Files.createTempDirectory("readme");
        Path file = Files.writeString(place.resolve("Examples.java"), source);
        JavaCompiler compiler = ToolProvider.getSystemJavaCompiler();
        String here = System.getProperty("java.class.path");
        String[] options = {"-cp", here, "-d", place.toString(), file.toString()};
        Due.same("the examples compile", compiler.run(null, null, null, options), 0);
        URL[] places = {place.toUri().toURL()};
        try (URLClassLoader loader = new URLClassLoader(places)) {
            Class<?> compiled = loader.loadClass("Examples");
            for (int i = 0; i < examples; i++) {
                try {
                    compiled.getMethod("example" + i).invoke(null);
                } catch (InvocationTargetException e) {
                    Due.yes("example " + i + ": " + e.getCause(), false);
                }
            }
        }
        for (String name : Arrays.asList("Examples.java", "Examples.class")) {
            Files.deleteIfExists(place.resolve(name));
        }
        Files.deleteIfExists(place);
    }
}

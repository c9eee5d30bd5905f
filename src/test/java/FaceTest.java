import java.lang.reflect.Constructor;
import java.lang.reflect.Field;
import java.lang.reflect.Method;
import java.lang.reflect.Modifier;
import java.nio.file.Files;
import java.nio.file.Path;
import java.util.ArrayList;
import java.util.List;
import java.util.Map;
import java.util.Set;
import java.util.TreeMap;
import java.util.TreeSet;
import java.util.regex.Matcher;
import java.util.regex.Pattern;

/** The public face against the document, and what LANGUAGE.md says of the source as such. */
public final class FaceTest {
    private static final Pattern METHOD = Pattern.compile("public (int|long) (\\w+)\\(([^)]*)\\)([^;]*);");
    private static final String[] WORDS_RULED_OUT = {
        "->", "::", "finally", "synchronized", "assert ", "getMessage", "hashCode", "System.out",
        "Exact(", "double", "float", "catch", "volatile", "native", "import java.util.*"
    };

    private static final Pattern CALL =
            Pattern.compile("\\b(?!if\\b|for\\b|while\\b|switch\\b|return\\b)(\\w+)\\(");

    private static final Map<String, Set<String>> calls = new TreeMap<>();
    private static String deepest = "";

    public static void main(String[] args) throws Exception {
        constants();
        methods();
        members();
        source();
        Due.end("FaceTest");
    }

    private static void constants() {
        Due.same("UNKNOWN", FlowHouse.UNKNOWN, -1);
        Due.same("OUTSIDE", FlowHouse.OUTSIDE, -2);
        Due.same("NO", FlowHouse.NO, -3);
        Due.same("FULL", FlowHouse.FULL, -4);
        Due.same("NOTHING", FlowHouse.NOTHING, Long.MIN_VALUE);
    }

    private static String told(Method m) {
        StringBuilder all = new StringBuilder(m.getReturnType() + " " + m.getName() + "(");
        for (Class<?> c : m.getParameterTypes()) {
            all.append(c).append(' ');
        }
        for (Class<?> c : m.getExceptionTypes()) {
            all.append(" throws ").append(c.getSimpleName());
        }
        return all.append(")").toString();
    }

    private static String told(Matcher m) {
        StringBuilder all = new StringBuilder(m.group(1) + " " + m.group(2) + "(");
        for (String part : m.group(3).split(", ")) {
            all.append(part.split(" ")[0]).append(' ');
        }
        return all.append(m.group(4).stripTrailing()).append(")").toString();
    }

    private static void methods() throws Exception {
        Set<String> due = new TreeSet<>();
        Matcher m = METHOD.matcher(Files.readString(Path.of("../shared/DOC.md")));
        while (m.find()) {
            due.add(told(m));
        }
        Set<String> found = new TreeSet<>();
        for (Method method : FlowHouse.class.getDeclaredMethods()) {
            if (!Modifier.isPrivate(method.getModifiers())) {
                found.add(told(method));
                Due.yes(method + " is public and no more", method.getModifiers() == Modifier.PUBLIC);
            }
        }
        Due.same("methods told", due.size(), 55);
        Due.yes("methods " + found + " are " + due, found.equals(due));
    }

    private static void members() {
        Due.same("modifiers", FlowHouse.class.getModifiers(), Modifier.PUBLIC | Modifier.FINAL);
        Constructor<?>[] all = FlowHouse.class.getDeclaredConstructors();
        Due.same("constructors", all.length, 1);
        Due.yes("public", Modifier.isPublic(all[0].getModifiers()) && all[0].getParameterCount() == 0);
        List<String> names = new ArrayList<>();
        for (Method method : FlowHouse.class.getDeclaredMethods()) {
            if (Modifier.isPublic(method.getModifiers())) {
                names.add(method.getName());
            }
        }
        looksInto(FlowHouse.class, names);
        for (Class<?> inside : FlowHouse.class.getDeclaredClasses()) {
            Due.yes(inside + " is static", Modifier.isStatic(inside.getModifiers()));
            Due.yes(inside + " is not public", !Modifier.isPublic(inside.getModifiers()));
            looksInto(inside, names);
        }
        Due.yes("some twelve classes", FlowHouse.class.getDeclaredClasses().length <= 11);
    }

    private static void looksInto(Class<?> c, List<String> publicNames) {
        int held = 0;
        for (Field field : c.getDeclaredFields()) {
            int is = field.getModifiers();
            if (Modifier.isStatic(is)) {
                Due.yes(field + " is final", Modifier.isFinal(is));
            } else {
                held++;
            }
            if (c == FlowHouse.class && !Modifier.isPrivate(is)) {
                Due.yes(field + " is told", Modifier.isPublic(is) && Modifier.isStatic(is));
            }
        }
        Due.yes(c + " has some twenty fields", held <= 20);
        for (Method method : c.getDeclaredMethods()) {
            Due.yes(method + " has few parameters", method.getParameterCount() <= 7);
            if (c != FlowHouse.class || Modifier.isPrivate(method.getModifiers())) {
                Due.yes(method + " has a name of its own", !publicNames.contains(method.getName()));
            }
        }
    }

    private static void source() throws Exception {
        String text = Files.readString(Path.of("src/main/java/FlowHouse.java"));
        String code = text.replaceAll("(?s)/\\*.*?\\*/", "").replaceAll("//[^\n]*", "");
        for (String word : WORDS_RULED_OUT) {
            Due.yes("no " + word, !code.contains(word));
        }
        Matcher imports = Pattern.compile("import ([^;]*);").matcher(code);
        while (imports.find()) {
            Due.yes("import " + imports.group(1), imports.group(1).equals("java.util.Arrays"));
        }
        Due.yes("no package line", !code.contains("package "));
        library(code);
        throwsAndStatics(code);
        methodsAreShort(text.split("\n"));
        for (int i = 0; i < text.length(); i++) {
            if (text.charAt(i) > 126) {
                Due.yes("plain characters alone", false);
            }
        }
    }

    /** Rule 4: what is called of another class is one's own, or stands in the list. */
    private static void library(String code) {
        Set<String> own = new TreeSet<>(Set.of("Arrays.fill", "Arrays.copyOf", "System.arraycopy",
                "Math.max", "Math.min", "Math.abs", "Integer.bitCount"));
        int found = 0;
        Matcher m = Pattern.compile("\\b([A-Z]\\w*[a-z]\\w*)\\.(\\w+)\\(").matcher(code);
        while (m.find()) {
            found++;
            Due.yes(m.group() + " is in the list", own.contains(m.group(1) + "." + m.group(2)));
        }
        Due.yes("calls of the library were found", found > 10);
        Due.yes("no texts joined by +", !code.contains("\" +") && !code.contains("+ \""));
    }

    /** Rules 5 and 6: one throw, in worth(); static fields are final, of types that are told. */
    private static void throwsAndStatics(String code) {
        Matcher m = Pattern.compile("throw\\b[^;]*;").matcher(code);
        int thrown = 0;
        while (m.find()) {
            thrown++;
            Due.yes(m.group(), m.group().equals("throw new ArithmeticException(\"by 0\");"));
        }
        Due.same("throws", thrown, 1);
        Matcher fields = Pattern.compile("(?m)^ *((?:public|private) )?static (?!final class)([^(]*?)=")
                .matcher(code);
        int found = 0;
        while (fields.find()) {
            found++;
            Due.yes(fields.group() + " is final and plain", fields.group(2).matches(
                    "final (int|long|boolean|char|String|int\\[\\]|long\\[\\]) (?s:.*)"));
        }
        Due.yes("static fields were found", found > 50);
        Due.yes("no static block", !Pattern.compile("static *\\{").matcher(code).find());
    }

    /** A method ends with the first bracket that stands as far in as its own first line. */
    private static void methodsAreShort(String[] lines) {
        Pattern first = Pattern.compile("( {4}| {8})(?! )(?!return|throw)[\\w \\[\\]]+\\(.*");
        int methods = 0;
        calls.clear();
        for (int i = 0; i < lines.length; i++) {
            Matcher m = first.matcher(lines[i]);
            Due.yes("line " + (i + 1) + " is no longer than 100", lines[i].length() <= 100);
            if (!m.matches() || lines[i].endsWith(";")) {
                continue;
            }
            methods++;
            int end = i;
            while (end < lines.length && !lines[end].equals(m.group(1) + "}")) {
                end++;
            }
            Due.yes("the method at line " + (i + 1) + " is short", end - i < 60);
            noteCalls(lines, i, end);
        }
        Due.yes("methods were found", methods > 150);
        for (String method : calls.keySet()) {
            deepest = "";
            int depth = depth(method, new ArrayList<>());
            Due.yes(method + " goes eight deep at most, not " + deepest, depth <= 8);
        }
    }

    /** What each method calls, by name alone; the library's methods are counted, too. */
    private static void noteCalls(String[] lines, int from, int to) {
        Matcher name = CALL.matcher(lines[from]);
        if (!name.find()) {
            return;
        }
        Set<String> all = calls.computeIfAbsent(name.group(1), k -> new TreeSet<>());
        for (int i = from + 1; i < to; i++) {
            Matcher m = CALL.matcher(lines[i].replaceAll("^ *(//|/\\*|\\*).*", ""));
            while (m.find()) {
                all.add(m.group(1));
            }
        }
    }

    /** How many calls stand open at once below a method, one that is open already not counted. */
    private static int depth(String method, List<String> open) {
        open.add(method);
        int most = 0;
        for (String next : calls.getOrDefault(method, Set.of())) {
            if (!open.contains(next)) {
                most = Math.max(most, depth(next, open));
            }
        }
        if (most == 0 && open.size() > 8) {
            deepest = String.join(" ", open);
        }
        open.remove(open.size() - 1);
        return most + 1;
    }
}

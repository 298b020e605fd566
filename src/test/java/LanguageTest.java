import java.io.IOException;
import java.lang.reflect.Constructor;
import java.lang.reflect.Field;
import java.lang.reflect.Method;
import java.lang.reflect.Modifier;
import java.nio.charset.StandardCharsets;
import java.nio.file.Files;
import java.nio.file.Path;
import java.util.ArrayList;
import java.util.List;
import java.util.Map;
import java.util.Set;
import java.util.TreeMap;
import java.util.TreeSet;
import java.util.regex.Matcher;
import java.util.regex.Pattern;

/** Some rules of ../shared/LANGUAGE.md that can be told from the text or the compiled class. */
public final class LanguageTest {
    private static final Due DUE = new Due();
    private static final Pattern HEAD = Pattern.compile("(?m)^( {4}| {8})(?=\\S)[\\w\\[\\] ]+\\b(\\w+)\\(.*\\) \\{$");
    private static final Pattern CALL = Pattern.compile("\\b(?!(?:if|for|while|switch|return)\\b)(\\w+) ?\\(");
    private static final int DEEPEST = 8;
    private static final Set<String> LIBRARY = Set.of("System.arraycopy", "Arrays.copyOf", "Arrays.copyOfRange",
        "Arrays.fill", "Math.max", "Math.min", "Math.abs", "Math.floorDiv", "Math.floorMod",
        "Integer.bitCount", "Integer.compare", "Integer.max", "Integer.min");

    public static void main(String[] args) throws IOException {
        words();
        library();
        methodsAreShort();
        callsAreShallow();
        objectsAreMadeOnce();
        face();
        classesInside();
        DUE.end();
    }

    private static String text() throws IOException {
        return Files.readString(Path.of("src/main/java/TubesOfCourt.java"), StandardCharsets.UTF_8);
    }

    /** The text without comments and without what stands in quotes. */
    private static String code(String text) {
        return text.replaceAll("(?s)/\\*.*?\\*/", "").replaceAll("//[^\n]*", "")
            .replaceAll("\"[^\"]*\"", "\"\"");
    }

    /** Methods stay short (some sixty lines). */
    private static void methodsAreShort() throws IOException {
        String text = text();
        Matcher heads = HEAD.matcher(text);
        int found = 0;
        while (heads.find()) {
            found++;
            long lines = bodyBehind(text, heads).lines().count() + 1;
            DUE.is(heads.group().strip() + " has lines above 60", Math.max(lines, 60), 60);
        }
        DUE.holds("methods are found", found > 100);
    }

    private static String bodyBehind(String text, Matcher head) {
        int end = text.indexOf("\n" + head.group(1) + "}", head.start());
        return text.substring(head.end(), Math.max(end, head.end()));
    }

    /** Calls that are no recursion go at most eight deep, the library's counted too. */
    private static void callsAreShallow() throws IOException {
        Map<String, Set<String>> calls = callsOfMethods();
        DUE.holds("methods of the face are found", calls.containsKey("listen") && calls.containsKey("done"));
        for (String method : calls.keySet()) {
            List<String> deepest = deepestFrom(method, calls, new ArrayList<>());
            DUE.holds(String.join(" > ", deepest) + " is no deeper than " + DEEPEST, deepest.size() <= DEEPEST);
        }
    }

    /** Methods of one name are taken for one: that finds no fewer calls than there are. */
    private static Map<String, Set<String>> callsOfMethods() throws IOException {
        String code = code(text());
        Map<String, Set<String>> calls = new TreeMap<>();
        Matcher heads = HEAD.matcher(code);
        while (heads.find()) {
            Set<String> called = calls.computeIfAbsent(heads.group(2), name -> new TreeSet<>());
            Matcher names = CALL.matcher(bodyBehind(code, heads));
            while (names.find()) {
                called.add(names.group(1));
            }
        }
        return calls;
    }

    private static List<String> deepestFrom(String method, Map<String, Set<String>> calls, List<String> open) {
        List<String> path = new ArrayList<>(open);
        path.add(method);
        List<String> deepest = path;
        for (String called : calls.getOrDefault(method, Set.of())) {
            List<String> through = path.contains(called) ? path : deepestFrom(called, calls, path);
            deepest = through.size() > deepest.size() ? through : deepest;
        }
        return deepest;
    }

    /** Of the library's static functions only those that stand in rule 4, and no import but Arrays. */
    private static void library() throws IOException {
        String code = code(text());
        Matcher calls = Pattern.compile("\\b([A-Z]\\w*[a-z]\\w*\\.\\w+)\\(").matcher(code);
        while (calls.find()) {
            DUE.holds(calls.group(1) + " stands in rule 4", LIBRARY.contains(calls.group(1)));
        }
        code.lines().filter(line -> line.startsWith("import"))
            .forEach(line -> DUE.holds(line, line.equals("import java.util.Arrays;")));
    }

    /** All objects are made with the object itself: no call makes one, whatever the calls are. */
    private static void objectsAreMadeOnce() throws IOException {
        Pattern makes = Pattern.compile("\\bnew\\b|\\b(clone|copyOf\\w*|substring|toCharArray|values|append)\\(");
        Pattern field = Pattern.compile("^ +private final [\\w\\[\\]]+ \\w+ = new .*;$");
        code(text()).lines().filter(line -> makes.matcher(line).find())
            .forEach(line -> DUE.holds("made in a constructor: " + line.strip(), field.matcher(line).matches()));
        for (Method method : TubesOfCourt.class.getDeclaredMethods()) {
            DUE.holds(method.getName() + " has seven parameters at most", method.getParameterCount() <= 7);
        }
    }

    private static void words() throws IOException {
        String text = text();
        String code = code(text);
        String[] banned = {"throw", "throws", "try", "catch", "finally", "synchronized", "assert", "package",
            "Thread", "System\\.(?!arraycopy)", "Random", "\\w+Exact", "hashCode", "toString", "->", "::", "@"};
        for (String word : banned) {
            boolean isName = Character.isLetter(word.charAt(0));
            Pattern pattern = Pattern.compile(isName ? "\\b" + word + (word.endsWith(")") ? "" : "\\b") : word);
            DUE.is("has " + word, pattern.matcher(code).find() ? 1 : 0, 0);
        }
        for (char sign : text.toCharArray()) {
            if (sign > 127) {
                DUE.is("a sign above 127", sign, 127);
            }
        }
    }

    private static void face() {
        Set<String> open = new TreeSet<>();
        for (Method method : TubesOfCourt.class.getDeclaredMethods()) {
            if (Modifier.isPublic(method.getModifiers())) {
                open.add(method.getName());
            }
        }
        DUE.is("methods of the face", open.size(), 39);
        for (Method method : TubesOfCourt.class.getDeclaredMethods()) {
            if (!Modifier.isPublic(method.getModifiers())) {
                DUE.is(method.getName() + " is private", Modifier.isPrivate(method.getModifiers()) ? 1 : 0, 1);
                DUE.is(method.getName() + " bears a public name", open.contains(method.getName()) ? 1 : 0, 0);
            }
        }
        for (Field field : TubesOfCourt.class.getDeclaredFields()) {
            boolean constant = field.getName().equals("NONE");
            DUE.is(field.getName() + " is private", Modifier.isPrivate(field.getModifiers()) ? 1 : 0, constant ? 0 : 1);
        }
        Constructor<?>[] constructors = TubesOfCourt.class.getConstructors();
        DUE.is("constructors", constructors.length, 1);
        DUE.is("final", Modifier.isFinal(TubesOfCourt.class.getModifiers()) ? 1 : 0, 1);
    }

    private static void classesInside() {
        Class<?>[] inside = TubesOfCourt.class.getDeclaredClasses();
        Set<String> open = new TreeSet<>();
        for (Method method : TubesOfCourt.class.getMethods()) {
            open.add(method.getName());
        }
        for (Class<?> one : inside) {
            for (Method method : one.getDeclaredMethods()) {
                DUE.is(method.getName() + " bears a public name", open.contains(method.getName()) ? 1 : 0, 0);
                DUE.holds(method.getName() + " has seven parameters at most", method.getParameterCount() <= 7);
            }
        }
        DUE.is("a dozen classes at most", inside.length <= 12 ? 1 : 0, 1);
        for (Class<?> one : inside) {
            DUE.is(one.getName() + " is static", Modifier.isStatic(one.getModifiers()) ? 1 : 0, 1);
            fieldsOf(one);
        }
        fieldsOf(TubesOfCourt.class);
    }

    private static void fieldsOf(Class<?> one) {
        int count = 0;
        for (Field field : one.getDeclaredFields()) {
            if (Modifier.isStatic(field.getModifiers())) {
                DUE.is(field.getName() + " is final", Modifier.isFinal(field.getModifiers()) ? 1 : 0, 1);
            } else {
                count++;
            }
        }
        DUE.is(one.getName() + " has some twenty fields at most", count <= 20 ? 1 : 0, 1);
    }
}

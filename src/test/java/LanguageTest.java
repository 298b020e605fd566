import java.io.IOException;
import java.lang.reflect.Constructor;
import java.lang.reflect.Field;
import java.lang.reflect.Method;
import java.lang.reflect.Modifier;
import java.nio.charset.StandardCharsets;
import java.nio.file.Files;
import java.nio.file.Path;
import java.util.Set;
import java.util.TreeSet;
import java.util.regex.Pattern;

/** Some rules of ../shared/LANGUAGE.md that can be told from the text or the compiled class. */
public final class LanguageTest {
    private static final Due DUE = new Due();

    public static void main(String[] args) throws IOException {
        words();
        face();
        classesInside();
        DUE.end();
    }

    private static void words() throws IOException {
        String text = Files.readString(Path.of("src/main/java/TubesOfCourt.java"), StandardCharsets.UTF_8);
        String code = text.replaceAll("(?s)/\\*.*?\\*/", "").replaceAll("//[^\n]*", "").replaceAll("\"[^\"]*\"", "\"\"");
        String[] banned = {"throw", "throws", "try", "catch", "finally", "synchronized", "assert", "package",
            "Thread", "System\\.(?!arraycopy)", "Random", "\\w+Exact", "hashCode", "toString", "->", "::", "@"};
        for (String word : banned) {
            boolean isName = Character.isLetter(word.charAt(0));
            Pattern pattern = Pattern.compile(isName ? "\\b" + word + (word.endsWith(")") ? "" : "\\b") : word);
            DUE.is("has " + word, pattern.matcher(code).find() ? 1 : 0, 0);
        }
        for (char sign : text.toCharArray()) {
            if (sign > 127) {
                DUE.is("a sign above 127", sign, 127);
            }
        }
    }

    private static void face() {
        Set<String> open = new TreeSet<>();
        for (Method method : TubesOfCourt.class.getDeclaredMethods()) {
            if (Modifier.isPublic(method.getModifiers())) {
                open.add(method.getName());
            }
        }
        DUE.is("methods of the face", open.size(), 39);
        for (Method method : TubesOfCourt.class.getDeclaredMethods()) {
            if (!Modifier.isPublic(method.getModifiers())) {
                DUE.is(method.getName() + " is private", Modifier.isPrivate(method.getModifiers()) ? 1 : 0, 1);
                DUE.is(method.getName() + " bears a public name", open.contains(method.getName()) ? 1 : 0, 0);
            }
        }
        for (Field field : TubesOfCourt.class.getDeclaredFields()) {
            boolean constant = field.getName().equals("NONE");
            DUE.is(field.getName() + " is private", Modifier.isPrivate(field.getModifiers()) ? 1 : 0, constant ? 0 : 1);
        }
        Constructor<?>[] constructors = TubesOfCourt.class.getConstructors();
        DUE.is("constructors", constructors.length, 1);
        DUE.is("final", Modifier.isFinal(TubesOfCourt.class.getModifiers()) ? 1 : 0, 1);
    }

    private static void classesInside() {
        Class<?>[] inside = TubesOfCourt.class.getDeclaredClasses();
        DUE.is("a dozen classes at most", inside.length <= 12 ? 1 : 0, 1);
        for (Class<?> one : inside) {
            DUE.is(one.getName() + " is static", Modifier.isStatic(one.getModifiers()) ? 1 : 0, 1);
            fieldsOf(one);
        }
        fieldsOf(TubesOfCourt.class);
    }

    private static void fieldsOf(Class<?> one) {
        int count = 0;
        for (Field field : one.getDeclaredFields()) {
            if (Modifier.isStatic(field.getModifiers())) {
                DUE.is(field.getName() + " is final", Modifier.isFinal(field.getModifiers()) ? 1 : 0, 1);
            } else {
                count++;
            }
        }
        DUE.is(one.getName() + " has some twenty fields at most", count <= 20 ? 1 : 0, 1);
    }
}

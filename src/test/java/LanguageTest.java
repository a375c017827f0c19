import java.lang.reflect.Constructor;
import java.lang.reflect.Field;
import java.lang.reflect.Method;
import java.lang.reflect.Modifier;
import java.nio.file.Files;
import java.nio.file.Path;
import java.util.Arrays;
import java.util.HashSet;
import java.util.List;
import java.util.Set;
import java.util.regex.Matcher;
import java.util.regex.Pattern;

/** What of ../shared/LANGUAGE.md a look at the source and at the class can tell; run in the project's folder. */
public final class LanguageTest {
    private static final Due due = new Due();
    private static final String[] FORBIDDEN = {"\\bthrow\\b", "\\bthrows\\b", "\\btry\\b", "\\bcatch\\b", "\\bsynchronized\\b", "\\bassert\\b",
        "->", "::", "\\bimport\\b", "\\bpackage\\b", "\\bthread\\b", "\\bThread\\b", "\\bRandom\\b", "Exact\\b", "\\bhashCode\\b", "\\btoString\\b",
        "\\bprotected\\b", "static *\\{", "\\bvar\\b", "\\bObject\\b", "System\\.(?!arraycopy)", "Math\\.(?!abs|min|max)", "\" *\\+", "\\+ *\"", "\\[\\] *\\[\\] *\\["};

    public static void main(String[] args) throws Exception {
        String source = Files.readString(Path.of("src/main/java/TwinTables.java"));
        due.is("signs of 1 to 127 alone", source.chars().allMatch(c -> c > 0 && c < 128) ? 1 : 0, 1);
        String code = source.replaceAll("(?s)/\\*.*?\\*/", "").replaceAll("//[^\n]*", "");
        for (String word : FORBIDDEN) {
            Matcher found = Pattern.compile(word).matcher(code);
            due.is("forbidden " + word, found.find() ? 1 : 0, 0);
        }
        methodLengths(code);
        face();
        insides();
        due.end();
    }

    private static void methodLengths(String code) {
        String[] lines = code.split("\n");
        Pattern head = Pattern.compile("^( {4}| {8})(?! )(?!.*\\bclass\\b)[^=;]*\\(([^)]*)\\) \\{$");
        int methods = 0;
        for (int k = 0; k < lines.length; k++) {
            Matcher m = head.matcher(lines[k]);
            if (!m.find() || lines[k].trim().matches("(if|for|while|switch|else|\\}).*")) continue;
            methods++;
            int end = k;
            while (!lines[end].equals(m.group(1) + "}")) end++;
            due.is("lines of" + lines[k], end - k < 60 ? 1 : 0, 1);
            due.is("parameters of" + lines[k], m.group(2).split(",").length <= 7 ? 1 : 0, 1);
        }
        due.is("methods were found", methods > 80 ? 1 : 0, 1);
    }

    private static void face() {
        Class<?> c = TwinTables.class;
        due.is("public and final", c.getModifiers(), Modifier.PUBLIC | Modifier.FINAL);
        Set<String> names = new HashSet<>();
        for (Method m : c.getDeclaredMethods()) {
            if (Modifier.isPublic(m.getModifiers())) {
                due.is("twice " + m.getName(), names.add(m.getName()) ? 1 : 0, 1);
                due.is("int " + m.getName(), m.getReturnType() == int.class ? 1 : 0, 1);
            }
        }
        due.is("the face", names.equals(new HashSet<>(Arrays.asList(Caller.NAMES))) ? 1 : 0, 1);
        for (Method m : c.getDeclaredMethods()) {
            if (Modifier.isPublic(m.getModifiers())) continue;
            due.is("private " + m.getName(), Modifier.isPrivate(m.getModifiers()) ? 1 : 0, 1);
            due.is("a public one's name " + m.getName(), names.contains(m.getName()) ? 1 : 0, 0);
        }
        Constructor<?>[] constructors = c.getDeclaredConstructors();
        due.is("constructors", constructors.length, 1);
        List<String> constants = List.of("BAD", "NO", "FULL", "NONE", "NOTHING", "KIND", "INDEX", "SIZE");
        for (Field f : c.getDeclaredFields()) {
            boolean isPublic = Modifier.isPublic(f.getModifiers());
            due.is("field " + f.getName(), isPublic == constants.contains(f.getName()) ? 1 : 0, 1);
            due.is("field " + f.getName(), isPublic || Modifier.isPrivate(f.getModifiers()) ? 1 : 0, 1);
        }
    }

    private static void insides() {
        Class<?>[] inside = TwinTables.class.getDeclaredClasses();
        due.is("at most twelve classes", inside.length < 12 ? 1 : 0, 1);
        Set<String> names = new HashSet<>(Arrays.asList(Caller.NAMES));
        for (Class<?> c : inside) {
            due.is("static " + c, Modifier.isStatic(c.getModifiers()) ? 1 : 0, 1);
            due.is("private " + c, Modifier.isPrivate(c.getModifiers()) ? 1 : 0, 1);
            long fields = Arrays.stream(c.getDeclaredFields()).filter(f -> !Modifier.isStatic(f.getModifiers())).count();
            due.is("fields of " + c, fields <= 20 ? 1 : 0, 1);
            for (Method m : c.getDeclaredMethods()) due.is("a public one's name " + c + " " + m, names.contains(m.getName()) ? 1 : 0, 0);
            for (Field f : c.getDeclaredFields()) {
                if (Modifier.isStatic(f.getModifiers())) due.is("static is final " + f, Modifier.isFinal(f.getModifiers()) ? 1 : 0, 1);
            }
        }
    }
}

import java.lang.reflect.Constructor;
import java.lang.reflect.Field;
import java.lang.reflect.Method;
import java.lang.reflect.Modifier;
import java.nio.charset.StandardCharsets;
import java.nio.file.Files;
import java.nio.file.Path;
import java.nio.file.Paths;
import java.util.ArrayList;
import java.util.Arrays;
import java.util.List;
import java.util.Set;
import java.util.TreeSet;
import java.util.regex.Matcher;
import java.util.regex.Pattern;

/** Rules of LANGUAGE.md that a look at the text or at the class can tell. */
public final class LanguageTest {
    private static final Path SOURCE = Paths.get("src/main/java/AngleNet.java");
    private static final String[] BARRED = {"throw", "throws", "try", "catch", "finally", "synchronized", "assert", "volatile",
        "transient", "native", "yield", "var", "System\\s*\\.\\s*(?!arraycopy)\\w+", "Thread", "Random", "File", "Object",
        "->", "::", "@", "equals", "hashCode", "toString", "\\w*Exact", "package"};
    private static final String[] LIBRARY = {"Arrays\\.fill", "Arrays\\.copyOf", "Arrays\\.copyOfRange", "System\\.arraycopy",
        "Math\\.(min|max|abs)", "Integer\\.bitCount"};

    private LanguageTest() {
    }

    public static void main(String[] args) throws Exception {
        String raw = Files.readString(SOURCE, StandardCharsets.US_ASCII);
        String code = raw.replaceAll("(?s)/\\*.*?\\*/", "").replaceAll("//[^\n]*", "")
                .replaceAll("\"[^\"\n]*\"", "\"\"").replaceAll("'[^'\n]*'", "' '");
        Due.about("LANGUAGE.md");
        barred(code);
        library(code);
        face();
        methods(code);
        nested();
        Due.end();
    }

    private static void barred(String code) {
        for (String word : BARRED) {
            String border = Character.isLetter(word.charAt(0)) ? "\\b" : "";
            Matcher m = Pattern.compile(border + word + border).matcher(code);
            Due.holds("rule 4, 6: no " + word, !m.find());
        }
        for (String line : code.split("\n")) {
            if (line.startsWith("import")) {
                Due.holds("rule 4: " + line, line.equals("import java.util.Arrays;"));
            }
        }
        Due.holds("no long lines", Arrays.stream(code.split("\n")).allMatch(l -> l.length() <= 130));
    }

    private static void library(String code) {
        Matcher m = Pattern.compile("\\b(Arrays|System|Math|Integer|Long|String)\\.\\w+").matcher(code);
        while (m.find()) {
            boolean listed = m.group().equals("java.util.Arrays");
            for (String allowed : LIBRARY) {
                listed |= m.group().matches(allowed);
            }
            Due.holds("rule 4: " + m.group(), listed);
        }
    }

    private static void face() throws Exception {
        Set<String> due = new TreeSet<>();
        for (String line : Files.readAllLines(Paths.get("../shared/DOC.md"))) {
            Matcher m = Pattern.compile("    public (int|long) (\\w+)\\((.*)\\);").matcher(line);
            if (m.matches()) {
                due.add(m.group(1) + " " + m.group(2) + "(" + m.group(3).replaceAll(" \\w+(,|$)", "$1").replace(" ", "") + ")");
            }
        }
        Set<String> got = new TreeSet<>();
        for (Method method : AngleNet.class.getDeclaredMethods()) {
            int modifiers = method.getModifiers();
            if (Modifier.isPublic(modifiers)) {
                StringBuilder types = new StringBuilder();
                for (Class<?> type : method.getParameterTypes()) {
                    types.append(types.length() == 0 ? "" : ",").append(type.getName());
                }
                got.add(method.getReturnType() + " " + method.getName() + "(" + types + ")");
            } else {
                Due.holds("rule 1: private " + method.getName(), Modifier.isPrivate(modifiers) || method.isSynthetic());
            }
        }
        Due.is("methods of the face", got.size(), 43);
        Due.holds("rule 1: the face is " + due + ", not " + got, got.equals(due));
        for (Field field : AngleNet.class.getDeclaredFields()) {
            Due.holds("rule 1: field " + field.getName(),
                    field.getName().equals("NONE") == Modifier.isPublic(field.getModifiers())
                            && (Modifier.isPublic(field.getModifiers()) || Modifier.isPrivate(field.getModifiers())));
        }
        Constructor<?>[] constructors = AngleNet.class.getDeclaredConstructors();
        Due.is("constructors", constructors.length, 1);
        Due.holds("public final", Modifier.isFinal(AngleNet.class.getModifiers()));
    }

    private static void nested() {
        Set<String> names = new TreeSet<>();
        for (Method method : AngleNet.class.getDeclaredMethods()) {
            if (Modifier.isPublic(method.getModifiers())) {
                names.add(method.getName());
            }
        }
        Class<?>[] classes = AngleNet.class.getDeclaredClasses();
        Due.holds("rule 11: classes", classes.length + 1 <= 12);
        List<Class<?>> all = new ArrayList<>(Arrays.asList(classes));
        all.add(AngleNet.class);
        for (Class<?> c : all) {
            int fields = 0;
            for (Field field : c.getDeclaredFields()) {
                boolean isStatic = Modifier.isStatic(field.getModifiers());
                fields += isStatic ? 0 : 1;
                Due.holds("rule 5: " + field, !isStatic || Modifier.isFinal(field.getModifiers()));
            }
            Due.holds("rule 11: fields of " + c.getName(), fields <= 20);
            for (Method method : c.getDeclaredMethods()) {
                Due.holds("rule 11: " + method, method.getParameterCount() <= 7);
                Due.holds("rule 1: " + method, c == AngleNet.class ? Modifier.isPublic(method.getModifiers())
                        || !names.contains(method.getName()) : !names.contains(method.getName()));
            }
        }
        for (Class<?> c : classes) {
            Due.holds("rule 2: " + c.getName(), Modifier.isStatic(c.getModifiers()));
        }
    }

    private static void methods(String code) {
        int start = -1;
        String[] lines = code.split("\n");
        for (int i = 0; i < lines.length; i++) {
            if (lines[i].matches(" {4,8}[a-z].*\\) \\{")) {
                start = i;
            }
            if (lines[i].matches(" {4,8}\\}") && start >= 0) {
                Due.holds("rule 11: length of " + lines[start].trim(), i - start <= 60);
                start = -1;
            }
        }
    }
}

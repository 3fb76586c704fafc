import java.io.IOException;
import java.lang.reflect.Constructor;
import java.lang.reflect.Field;
import java.lang.reflect.Method;
import java.lang.reflect.Modifier;
import java.nio.file.Files;
import java.nio.file.Path;
import java.util.ArrayList;
import java.util.Arrays;
import java.util.List;
import java.util.Set;
import java.util.TreeSet;
import java.util.regex.Matcher;
import java.util.regex.Pattern;
import java.util.stream.Collectors;

/** The public face of the document, and those rules of LANGUAGE.md that a program can look at. */
public final class LanguageTest {
    private static final Due due = new Due();
    private static final Path SOURCE = Path.of("src/main/java/SquareCaller.java");
    private static final String FACE = "alike(int) at(int,int) back() call(int) count(int) dance() danced(int) "
            + "fall(int) feed(int) home() image() meant(int) on(int) picture(int) redo() round() squares(int) "
            + "text(int) undo() way(int) would()";

    public static void main(String[] args) throws IOException {
        face();
        members();
        classesInside();
        words(code());
        methodLengths(code());
        due.end("LanguageTest");
    }

    private static void face() {
        Set<String> methods = new TreeSet<>();
        for (Method m : SquareCaller.class.getDeclaredMethods()) {
            if (Modifier.isPublic(m.getModifiers())) {
                due.is("face: " + m.getName() + " is int and no static", m.getReturnType() == int.class
                        && !Modifier.isStatic(m.getModifiers()) ? 1 : 0, 1);
                methods.add(m.getName() + "(" + Arrays.stream(m.getParameterTypes()).map(Class::getName)
                        .collect(Collectors.joining(",")) + ")");
            }
        }
        due.is("face: methods", String.join(" ", methods), FACE);
        Set<String> fields = new TreeSet<>();
        for (Field f : SquareCaller.class.getFields()) {
            fields.add(f.getName());
        }
        due.is("face: constants", fields.toString(), "[BAD, FULL, LONG, NOT, STATE]");
        due.is("face: BAD", SquareCaller.BAD, -1);
        due.is("face: NOT", SquareCaller.NOT, -2);
        due.is("face: FULL", SquareCaller.FULL, -3);
        due.is("face: STATE", SquareCaller.STATE, -5);
        due.is("face: LONG", SquareCaller.LONG, -7);
        due.is("face: constructors", Arrays.stream(SquareCaller.class.getDeclaredConstructors())
                .map(Constructor::toString).collect(Collectors.joining(" ")), "public SquareCaller()");
        due.is("face: the class", Modifier.toString(SquareCaller.class.getModifiers()), "public final");
    }

    private static List<Class<?>> all() {
        List<Class<?>> all = new ArrayList<>(List.of(SquareCaller.class));
        all.addAll(List.of(SquareCaller.class.getDeclaredClasses()));
        return all;
    }

    private static void members() {
        Set<String> names = new TreeSet<>();
        for (Method m : SquareCaller.class.getDeclaredMethods()) {
            if (Modifier.isPublic(m.getModifiers())) {
                names.add(m.getName());
            }
        }
        for (Class<?> c : all()) {
            for (Method m : c.getDeclaredMethods()) {
                if (!Modifier.isPublic(m.getModifiers())) {
                    boolean isOuter = c == SquareCaller.class;
                    due.is("rule 1: " + c + " " + m.getName(), names.contains(m.getName())
                            || isOuter && !Modifier.isPrivate(m.getModifiers()) ? 1 : 0, 0);
                }
                due.is("rule 11: parameters of " + m.getName(), m.getParameterCount() <= 7 ? 1 : 0, 1);
            }
            int own = 0;
            for (Field f : c.getDeclaredFields()) {
                boolean isStatic = Modifier.isStatic(f.getModifiers());
                boolean isFace = Modifier.isPublic(f.getModifiers());
                own += isStatic ? 0 : 1;
                due.is("rule 1: " + f, isFace || Modifier.isPrivate(f.getModifiers()) ? 1 : 0, 1);
                due.is("rule 5: " + f, !isStatic || Modifier.isFinal(f.getModifiers()) ? 1 : 0, 1);
            }
            due.is("rule 11: fields of " + c, own <= 20 ? 1 : 0, 1);
        }
    }

    private static void classesInside() {
        for (Class<?> c : SquareCaller.class.getDeclaredClasses()) {
            due.is("rule 2: " + c, Modifier.toString(c.getModifiers()), "private static final");
            due.is("rule 2: inside " + c, c.getDeclaredClasses().length, 0);
        }
        due.is("rule 11: classes", all().size() <= 12 ? 1 : 0, 1);
    }

    /** The source without comments and without what its texts hold. */
    private static String code() throws IOException {
        return Files.readString(SOURCE).replaceAll("(?s)/\\*.*?\\*/", "").replaceAll("//[^\n]*", "")
                .replaceAll("\"[^\"\n]*\"", "\"\"").replaceAll("'[^'\n]*'", "'x'");
    }

    private static void words(String code) {
        String none = "throw|throws|try|catch|finally|synchronized|assert|import|package|volatile|native|strictfp|"
                + "Object|Exception|Error|Thread|Random|System\\.(?!arraycopy)|Math\\.\\w+Exact|getClass|hashCode|"
                + "toString|instanceof|protected|String\\s*\\[|Integer|double|float";
        Matcher m = Pattern.compile("\\b(" + none + ")|->|::|\"\\s*\\+|\\+\\s*\"").matcher(code);
        while (m.find()) {
            due.is("rules 2 to 13: the source holds", m.group(), "");
        }
        due.is("rule 12: a new object or row in a method", newInMethods(code), 0);
        Matcher handed = Pattern.compile("new \\w+\\([^)]").matcher(code);
        due.is("rule 12: a part of the object is handed out as it is made", handed.find() ? 1 : 0, 0);
    }

    /** All rows and objects are made as fields: "new" stands only behind a field's name and "=". */
    private static int newInMethods(String code) {
        int found = 0;
        for (String line : code.split("\n")) {
            boolean isField = line.matches("\\s*private (static )?final \\S+ \\w+ = new .*;");
            found += line.contains("new ") && !isField ? 1 : 0;
        }
        return found;
    }

    private static void methodLengths(String code) {
        int start = 0;
        String[] lines = code.split("\n");
        for (int i = 0; i < lines.length; i++) {
            if (lines[i].matches("\\s+(public |private )?(static )?[\\w\\[\\]]+ \\w+\\(.*\\) \\{")) {
                start = i;
            } else if (lines[i].isBlank() || lines[i].matches("}")) {
                due.is("rule 11: lines to " + (i + 1), i - start <= 60 || start == 0 ? 1 : 0, 1);
                start = 0;
            }
        }
    }
}

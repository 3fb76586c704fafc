import java.io.IOException;
import java.lang.reflect.Method;
import java.lang.reflect.Modifier;
import java.nio.file.Files;
import java.nio.file.Path;
import java.util.List;
import java.util.regex.Matcher;
import java.util.regex.Pattern;
import java.util.stream.Collectors;
import java.util.stream.Stream;

/** What README.md tells: its example answers so, and no call and no test is missing there. */
public final class ReadmeTest {
    private static final Due due = new Due();

    public static void main(String[] args) throws IOException {
        String page = Files.readString(Path.of("README.md"));
        example(page);
        everyCall(page);
        words(page);
        everyTest(page);
        due.end("ReadmeTest");
    }

    /** Each line "x.name(..);  // number: why" of the example is called, in its order. */
    private static void example(String page) {
        Matcher text = Pattern.compile("for \\(char sign : \"([^\"]*)\"").matcher(page);
        due.is("README: the example has a text", text.find() ? 1 : 0, 1);
        SquareCaller x = new SquareCaller();
        Due.feed(x, text.group(1));
        Matcher line = Pattern.compile("= x\\.(\\w+)\\(([-0-9, ]*)\\); +// (-?\\d+): ").matcher(page);
        int lines = 0;
        while (line.find()) {
            lines++;
            due.is("README: " + line.group(1) + "(" + line.group(2) + ")", answer(x, line.group(1), line.group(2)),
                    Integer.parseInt(line.group(3)));
        }
        due.is("README: lines of the example", lines, 7);
    }

    private static int answer(SquareCaller x, String name, String arguments) {
        int[] n = Stream.of(arguments.split(",")).map(String::strip).filter(s -> !s.isEmpty())
                .mapToInt(Integer::parseInt).toArray();
        switch (name) {
            case "dance":
                return x.dance();
            case "fall":
                return x.fall(n[0]);
            case "at":
                return x.at(n[0], n[1]);
            case "way":
                return x.way(n[0]);
            case "undo":
                return x.undo();
            default:
                throw new IllegalStateException("the example calls " + name);
        }
    }

    private static void everyCall(String page) {
        for (Method m : SquareCaller.class.getDeclaredMethods()) {
            if (Modifier.isPublic(m.getModifiers())) {
                due.is("README: tells of " + m.getName(),
                        Pattern.compile("\\|[^|\n]*`" + m.getName() + "\\(").matcher(page).find() ? 1 : 0, 1);
            }
        }
    }

    private static void words(String page) {
        due.is("README: WHO", page.contains("WHO: " + String.join(" ", Model.WHO) + "\n") ? 1 : 0, 1);
        due.is("README: FIGURE", page.contains("FIGURE: " + String.join(" ", Model.FIGURES) + "\n") ? 1 : 0, 1);
    }

    private static void everyTest(String page) throws IOException {
        List<String> names;
        try (Stream<Path> files = Files.list(Path.of("src/test/java"))) {
            names = files.map(f -> f.getFileName().toString()).filter(f -> f.endsWith("Test.java"))
                    .map(f -> f.substring(0, f.length() - 5)).collect(Collectors.toList());
        }
        for (String name : names) {
            due.is("README: tells of " + name, page.contains("| `" + name + "` |") ? 1 : 0, 1);
        }
    }
}

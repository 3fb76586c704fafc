import java.io.IOException;
import java.nio.file.Files;
import java.nio.file.Path;
import java.util.ArrayList;
import java.util.List;
import java.util.regex.Matcher;
import java.util.regex.Pattern;

/** Runs a test for one sentence of the document, and sees to it that no promise is left out. */
final class Edges {
    private static final Path DOCUMENT = Path.of("../shared/DOC.md");
    private static final int PROMISES = 22;

    private final Due due = new Due();
    private final String document;
    private final List<String> told = new ArrayList<>();

    Edges() throws IOException {
        document = Files.exists(DOCUMENT) ? oneLine(Files.readString(DOCUMENT)) : "";
    }

    Due due() {
        return due;
    }

    /** A sentence of a promise (0: of the terms), in the document's own words, and its test. */
    void sentence(int promise, String words, Runnable test) {
        int before = due.wrong();
        if (!document.isEmpty()) {
            String part = promise == 0 ? document : promise(promise);
            due.is("promise " + promise + " says \"" + words + "\"", part.contains(oneLine(words)) ? 1 : 0, 1);
        }
        test.run();
        told.add(promise + ": " + words);
        System.out.println((due.wrong() == before ? "  holds " : "  FAILS ") + promise + ": " + words);
    }

    /** For each answer that a promise names, one of its sentences with a test must name it, too. */
    void nothingLeftOut() {
        for (int n = 1; n <= PROMISES; n++) {
            String all = "";
            for (String one : told) {
                all += one.startsWith(n + ": ") ? one + "\n" : "";
            }
            due.is("sentences of promise " + n, all.isEmpty() ? 0 : 1, 1);
            Matcher answers = Pattern.compile("\\b(BAD|NOT|FULL|STATE|LONG|FAULT)\\b").matcher(promise(n));
            while (answers.find()) {
                due.is("promise " + n + ", " + answers.group(), all.contains(answers.group()) ? 1 : 0, 1);
            }
        }
    }

    /** The document's text of a promise. */
    private String promise(int n) {
        int start = document.indexOf("## Promise " + n + ":");
        if (start < 0) {
            return "";
        }
        int end = document.indexOf("## ", start + 3);
        return end < 0 ? document.substring(start) : document.substring(start, end);
    }

    private static String oneLine(String text) {
        return text.replaceAll("\\s+", " ");
    }
}

/** Holds answers against those that are due, and feeds texts. */
final class Due {
    private int wrong = 0;
    private int held = 0;

    void is(String what, int got, int want) {
        held++;
        if (got != want) {
            wrong++;
            System.out.println(what + " answered " + got + ", due is " + want);
        }
    }

    void is(String what, String got, String want) {
        held++;
        if (!got.equals(want)) {
            wrong++;
            System.out.println(what + " is \"" + got + "\", due is \"" + want + "\"");
        }
    }

    int wrong() {
        return wrong;
    }

    /** Ends the test: exit code 1 if an answer was wrong. */
    void end(String name) {
        System.out.println(name + ": " + held + " answers held, " + wrong + " wrong");
        if (wrong != 0) {
            System.exit(1);
        }
    }

    static void feed(SquareCaller x, String text) {
        for (int i = 0; i < text.length(); i++) {
            x.feed(text.charAt(i));
        }
    }

    static int dance(SquareCaller x, String text) {
        feed(x, text);
        return x.dance();
    }

    static int would(SquareCaller x, String text) {
        feed(x, text);
        return x.would();
    }

    static int round(SquareCaller x, String text) {
        feed(x, text);
        return x.round();
    }

    /** A new object on which a text was danced. */
    static SquareCaller after(String text) {
        SquareCaller x = new SquareCaller();
        if (!text.isEmpty()) {
            dance(x, text);
        }
        return x;
    }

    static String picture(SquareCaller x) {
        StringBuilder b = new StringBuilder();
        int n = x.picture(-1);
        for (int i = 0; i < n; i++) {
            b.append((char) x.picture(i));
        }
        return b.toString().replace('\n', '|');
    }

    static String text(SquareCaller x) {
        StringBuilder b = new StringBuilder();
        int n = x.text(-1);
        for (int i = 0; i < n; i++) {
            b.append((char) x.text(i));
        }
        return b.toString();
    }

    /** All FALLS of the latest dance(), the one of nobody behind a slash. */
    static String falls(SquareCaller x) {
        StringBuilder b = new StringBuilder();
        int n = x.fall(0);
        for (int i = 1; i <= n; i++) {
            b.append(i > 1 ? " " : "").append(x.fall(i));
        }
        return b.append("/").append(x.fall(-1)).toString();
    }

    /** All calls of the way home, or the answer that there is none. */
    static String way(SquareCaller x) {
        int n = x.way(-1);
        if (n < 0) {
            return "none " + n;
        }
        StringBuilder b = new StringBuilder();
        for (int i = 0; i < n; i++) {
            b.append(i > 0 ? " " : "").append(x.way(i));
        }
        return b.toString();
    }
}

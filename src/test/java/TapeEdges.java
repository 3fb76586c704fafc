/** The boundaries of THE TAPE, of A TEXT of CALLS and its FAULT: promise 2, and what 3, 5 and 14 say of both. */
final class TapeEdges {
    private static final int MOST = 120;
    /** 119 bytes, without a FAULT. */
    private static final String LONG_TEXT = "left,".repeat(23) + "left";

    private final Due due;

    TapeEdges(Due due) {
        this.due = due;
    }

    void all(Edges on) {
        on.sentence(2, "A byte (32 .. 126) comes to THE TAPE: how many it has. BAD, FULL.", this::bytes);
        on.sentence(0, "A TEXT of CALLS, by THE TAPE (120 bytes at most)", this::mostBytes);
        on.sentence(0, "CALL { , CALL }.", this::callsInARow);
        on.sentence(0, "CALL: WHO, a blank, FIGURE; or FIGURE alone (all)", this::whoAndFigure);
        on.sentence(0, "behind it maybe a blank and a figure 2 .. 4 (that many times).", this::times);
        on.sentence(0, "FAULT: of a word (letters a .. z, as many as stand there) that is none of these where "
                + "it stands: where it begins;", this::wordsThatAreNone);
        on.sentence(0, "otherwise the first byte with which no TEXT goes on;", this::firstWrongByte);
        on.sentence(0, "the length, if it ends too early.", this::endsTooEarly);
        on.sentence(3, "THE TAPE, which is empty then, is DANCED: how many calls were; -100 less the FAULT "
                + "(nothing is danced).", this::danceWithFault);
        on.sentence(5, "which is empty then (a FIGURE of one each: how many are meant; ring: 8). -100 less the "
                + "FAULT;", this::wouldWithFault);
        on.sentence(14, "ROUND of THE TAPE, which is empty then (nothing changes else). -100 less the FAULT;",
                this::roundWithFault);
    }

    private void bytes() {
        SquareCaller x = new SquareCaller();
        for (int letter = 32; letter <= 126; letter++) {
            due.is("feed(" + letter + ")", x.feed(letter), letter - 31);
        }
        int[] outside = {31, 127, 30, 128, 0, 10, -1, -97, 255, 256 + 97, 65536 + 97, Integer.MIN_VALUE,
            Integer.MAX_VALUE};
        for (int letter : outside) {
            due.is("feed(" + letter + ")", x.feed(letter), SquareCaller.BAD);
        }
        due.is("feed(32) after those", x.feed(32), 96);
        Witness.refused(due, "feed(31)", Witness::busyWithTape, o -> o.feed(31), SquareCaller.BAD);
        Witness.refused(due, "feed(127)", Witness::busyWithTape, o -> o.feed(127), SquareCaller.BAD);
        Witness.refused(due, "feed(31) to an empty tape", Witness::busy, o -> o.feed(31), SquareCaller.BAD);
    }

    private static SquareCaller fed(String text) {
        SquareCaller x = new SquareCaller();
        Due.feed(x, text);
        return x;
    }

    private void mostBytes() {
        String full = "left,".repeat(23) + "right";
        due.is("byte 118", fed(full.substring(0, MOST - 3)).feed('g'), MOST - 2);
        due.is("byte 119", fed(full.substring(0, MOST - 2)).feed('h'), MOST - 1);
        due.is("byte 120", fed(full.substring(0, MOST - 1)).feed('t'), MOST);
        due.is("byte 121", fed(full).feed('s'), SquareCaller.FULL);
        due.is("byte 121, a wrong one: BAD is named first", fed(full).feed(127), SquareCaller.BAD);
        Witness.refused(due, "byte 121 changes nothing", () -> fed(full), o -> o.feed('s'), SquareCaller.FULL);
        Witness.refused(due, "nor does a blank", () -> fed(full), o -> o.feed(' '), SquareCaller.FULL);
        due.is("a text of 119 bytes", fed(LONG_TEXT).dance(), 24);
        due.is("a text of 120 bytes", fed(full).dance(), 24);
        SquareCaller again = fed(full);
        again.dance();
        Due.feed(again, full);
        due.is("an emptied tape takes 120 again, and no more", again.feed('s'), SquareCaller.FULL);
        due.is("they are danced", again.dance(), 24);
    }

    /** The three calls that read THE TAPE all find the FAULT, and leave THE TAPE empty and nothing else changed. */
    private void fault(String text, int where) {
        String what = "\"" + text + "\"";
        SquareCaller x = Due.after("heads forward");
        due.is("dance() of " + what, Due.dance(x, text), -100 - where);
        due.is("would() of " + what, Due.would(x, text), -100 - where);
        due.is("round() of " + what, Due.round(x, text), -100 - where);
        due.is("the tape after " + what, x.feed('x'), 1);
        due.is("calls after " + what, x.call(-1), 1);
    }

    private void dances(String text, int calls) {
        due.is("dance() of \"" + text + "\"", Due.dance(new SquareCaller(), text), calls);
    }

    private void callsInARow() {
        fault("", 0);
        dances("left", 1);
        dances("left,right", 2);
        dances("left,right,left", 3);
        fault(",left", 0);
        fault("left,", 5);
        fault("left,,right", 5);
        fault("left, right", 5);
        fault("left ,right", 5);
        fault("left;right", 4);
        dances("left 4,".repeat(16) + "left 4", 68);
        // no TEXT has more calls than this one: 119 bytes, 80 calls
        SquareCaller most = Due.after("heads forward");
        due.is("80 calls, the third of which falls", Due.dance(most, "box 4,".repeat(19) + "box 4"), 2);
        due.is("80 calls and a comma", Due.dance(new SquareCaller(), "box 4,".repeat(20)), -100 - MOST);
    }

    private void whoAndFigure() {
        for (String figure : Model.FIGURES) {
            due.is(figure + " alone is for all", Due.would(place(figure), figure),
                    Due.would(place(figure), "all " + figure));
            for (String who : Model.WHO) {
                due.is("\"" + who + " " + figure + "\" has no fault",
                        Due.dance(new SquareCaller(), who + " " + figure) >= 0 ? 1 : 0, 1);
            }
            fault(figure + " " + figure, figure.length() + 1);
        }
        for (String who : Model.WHO) {
            fault(who, who.length());
            fault(who + "left", 0);
            fault(who + "  left", who.length() + 1);
            fault(who + " " + who + " left", who.length() + 1);
            fault(who + ",left", who.length());
        }
        fault(" left", 0);
        fault(" heads left", 0);
    }

    /** A square on which the figure is danced by all. */
    private static SquareCaller place(String figure) {
        boolean meets = figure.equals("pass") || figure.equals("star") || figure.equals("box");
        return Due.after(meets ? "heads forward" : figure.equals("forward") || figure.equals("back") ? "left" : "");
    }

    private void times() {
        dances("left", 1);
        fault("left 1", 5);
        dances("left 2", 2);
        dances("left 3", 3);
        dances("left 4", 4);
        fault("left 5", 5);
        fault("left 0", 5);
        fault("left 9", 5);
        fault("left /", 5);
        fault("left :", 5);
        fault("left1", 4);
        dances("heads left 2", 2);
        dances("heads left 4", 4);
        fault("heads left 1", 11);
        fault("heads left 5", 11);
        fault("left 2left", 6);
        fault("left 22", 6);
        fault("left 42", 6);
        fault("left 2 2", 6);
        fault("left  2", 5);
        fault("left2", 4);
        fault("2 left", 0);
        fault("heads 2 left", 6);
        dances("left 2,left 4,left 3", 9);
    }

    private void wordsThatAreNone() {
        for (String figure : Model.FIGURES) {
            none(figure);
            noneBehind("heads ", figure);
        }
        for (String who : Model.WHO) {
            none(who);
            // a word of WHO is none of these where a FIGURE must stand
            fault("heads " + who, 6);
            fault("left " + who + " left", 5);
        }
        fault("a", 0);
        fault("z", 0);
        fault("left,a", 5);
        fault("left 2,heads z", 13);
        fault("left x", 5);
        fault("x".repeat(MOST), 0);
        fault("left," + "x".repeat(MOST - 5), 5);
        // 96 and 123, beside a and z, are no letters: the word ends there, and is one of these
        fault("left`", 4);
        fault("left{", 4);
        fault("lef`t", 0);
        fault("`left", 0);
        fault("{", 0);
        fault("leftA", 4);
        fault("heads Left", 6);
    }

    /** A word that is cut, or has one letter too many, is a fault where it begins; the word itself is none there. */
    private void none(String word) {
        String cut = word.substring(0, word.length() - 1);
        noneBehind("", word);
        noneBehind("left,", word);
        noneBehind("left 3,", word);
        fault(word.substring(1), 0);
        fault("x" + word.substring(1), 0);
        fault(cut + ",left", 0);
    }

    private void noneBehind(String head, String word) {
        int at = head.length();
        fault(head + word.substring(0, word.length() - 1), at);
        fault(head + word + "a", at);
        fault(head + word + "z", at);
        fault(head + word + "~", at + word.length());
    }

    private void firstWrongByte() {
        fault("2", 0);
        fault(" ", 0);
        fault("-left", 0);
        fault("left.", 4);
        fault("left,.", 5);
        fault("left,2", 5);
        fault("heads.left", 5);
        fault("heads .", 6);
        fault("heads 2", 6);
        fault("left .", 5);
        fault("left 3.", 6);
        fault("left 3 ", 6);
        fault("left 3,.", 7);
        // only the first of two is told
        fault("left..", 4);
        fault("left 5,lef", 5);
        fault("lef 5", 0);
        fault(LONG_TEXT + ".", MOST - 1);
        fault(LONG_TEXT.substring(0, MOST - 2) + ".t", MOST - 5);
    }

    private void endsTooEarly() {
        fault("", 0);
        fault("heads", 5);
        fault("heads ", 6);
        dances("heads left", 1);
        fault("heads left ", 11);
        dances("heads left 2", 2);
        fault("heads left 2,", 13);
        fault("heads left 2,men", 16);
        fault("heads left 2,men ", 17);
        dances("heads left 2,men left", 3);
        fault("left ", 5);
        fault("left,", 5);
        fault(LONG_TEXT + " ", MOST);
        fault(LONG_TEXT + ",", MOST);
        fault("left,".repeat(23) + "heads", MOST);
    }

    private void danceWithFault() {
        String[] texts = {"", "left,", "left,x", "left 5", "heads", "left,left,left 4,right 0"};
        int[] where = {0, 5, 5, 5, 5, 23};
        for (int i = 0; i < texts.length; i++) {
            Witness.empties(due, "dance() of \"" + texts[i] + "\"", Witness::busy, texts[i], SquareCaller::dance,
                    -100 - where[i]);
        }
        SquareCaller x = Due.after("left");
        due.is("a tape is danced once only", x.dance(), -100);
    }

    private void wouldWithFault() {
        Witness.empties(due, "would() of nothing", Witness::busy, "", SquareCaller::would, -100);
        Witness.empties(due, "would() of \"left,\"", Witness::busy, "left,", SquareCaller::would, -105);
        Witness.empties(due, "would(), FAULT ahead of BAD", Witness::busy, "left,left,", SquareCaller::would, -110);
        Witness.empties(due, "would(), FAULT ahead of NOT", Witness::busy, "ring,", SquareCaller::would, -105);
        Witness.empties(due, "would() without a FAULT", Witness::busy, "left", SquareCaller::would, 8);
    }

    private void roundWithFault() {
        Witness.empties(due, "round() of nothing", Witness::busy, "", SquareCaller::round, -100);
        Witness.empties(due, "round() of \"left 1\"", Witness::busy, "left 1", SquareCaller::round, -105);
        Witness.empties(due, "round(), FAULT ahead of NOT", Witness::busy, "ring,lef", SquareCaller::round, -105);
        Witness.empties(due, "round() without a FAULT", Witness::busy, "left", SquareCaller::round, 4);
    }
}

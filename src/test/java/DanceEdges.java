import java.util.function.ToIntFunction;

/** The boundaries of THE DANCE and of the calls that make it: promises 1 and 3 to 8. */
final class DanceEdges {
    private static final int BAD = SquareCaller.BAD;
    private static final int NOT = SquareCaller.NOT;
    private static final int FULL = SquareCaller.FULL;
    private static final int STATE = SquareCaller.STATE;
    private static final String AT_HOME = "..6v5v..|7>....4<|8>....3<|..1^2^..|";
    /** 119 bytes, and of all texts the one with the most calls: 80. */
    private static final String EIGHTY = "box 4,".repeat(19) + "box 4";

    private final Due due;

    DanceEdges(Due due) {
        this.due = due;
    }

    void all(Edges on) {
        on.sentence(1, "All are HOME.", this::newObject);
        on.sentence(0, "An object is used for at most 512 calls after it has been made", this::lastCall);
        on.sentence(0, "Answers, of several the one named first: BAD (-1): no such number, or it is not as "
                + "said; NOT (-2); FULL (-3); STATE (-5); LONG (-7).", this::namedFirst);
        on.sentence(0, "What is answered so changes nothing, but THE TAPE, where it is said.", this::changesNothing);
        on.sentence(0, "DANCED: call by call (times are calls of their own), till one FALLS.", this::tillOneFalls);
        on.sentence(0, "THE DANCE: calls danced one by one since the first, or since home(), that were not "
                + "undone (200 at most).", this::twoHundred);
        on.sentence(0, "Undone, all is as ahead of the latest; what was undone can be danced again, till "
                + "another call is danced.", this::tillAnotherCall);
        on.sentence(3, "FULL: THE DANCE and all calls of the TEXT are more than 200 (nothing is danced, whether "
                + "one would FALL or not).", this::full);
        on.sentence(4, "Of the latest dance() that had neither FAULT nor FULL (back() and home() change nothing "
                + "of it):", this::fallsOfTheLatest);
        on.sentence(4, "how many DANCERS FALL (what 0; 0: none, or it had 4, 5)", this::howManyFall);
        on.sentence(4, "of the i-th (what 1 + i): 10 times the DANCER, and why; 4, 5 alone (what -1; 0: "
                + "neither).", this::whoFalls);
        on.sentence(4, "BAD: what below -1; NOT: there are not as many.", this::noSuchFall);
        on.sentence(5, "How many pairs would do the one call on THE TAPE, which is empty then (a FIGURE of one "
                + "each: how many are meant; ring: 8).", this::howManyWould);
        on.sentence(5, "BAD: it has more calls than one (THE TAPE is empty then, too); NOT: it FALLS.",
                this::wouldNot);
        on.sentence(6, "The latest call of THE DANCE is undone: how many it has then. STATE: none.", this::undo);
        on.sentence(7, "What was undone last is danced again: how many THE DANCE has. STATE: none.", this::redo);
        on.sentence(8, "All are HOME, THE DANCE is empty, nothing is there to be danced again: how many calls "
                + "it had.", this::home);
    }

    private void newObject() {
        SquareCaller x = new SquareCaller();
        due.is("a new object", Due.picture(x), AT_HOME);
        due.is("all on their cells, and so FACING", x.count(0) + 10 * x.count(1), 88);
        due.is("calls", x.call(-1), 0);
        due.is("falls", Due.falls(x), "/0");
        due.is("the way home", x.way(-1), 0);
        due.is("squares", x.squares(0), 1);
        due.is("the text", x.text(-1), 0);
        due.is("an image", x.alike(0), STATE);
        due.is("home() had", x.home(), 0);
        due.is("the tape", x.dance(), -100);
        // two objects have nothing in common
        SquareCaller y = new SquareCaller();
        Due.dance(y, "left");
        y.image();
        due.is("another object is still at home", Due.picture(x), AT_HOME);
        due.is("and has no image", x.back(), STATE);
    }

    private void lastCall() {
        SquareCaller x = new SquareCaller();
        for (int i = 0; i < 28; i++) {
            Due.dance(x, "left 4");
        }
        for (int calls = 28 * 7; calls < 509; calls++) {
            due.is("a question", x.at(0, 1), 0);
        }
        due.is("call 510", x.feed('l'), 1);
        due.is("call 511", x.undo(), 111);
        due.is("call 512", x.at(0, 1), 1);
    }

    private void namedFirst() {
        String full = "left,".repeat(23) + "right";
        SquareCaller x = new SquareCaller();
        Due.feed(x, full);
        due.is("feed: BAD ahead of FULL", x.feed(31), BAD);
        due.is("feed: FULL", x.feed(32), FULL);
        due.is("alike: BAD ahead of STATE", x.alike(2), BAD);
        due.is("alike: STATE", x.alike(1), STATE);
        SquareCaller far = Due.after("heads slide,men around,ladies right");
        due.is("way: BAD ahead of LONG", far.way(-2), BAD);
        due.is("way: LONG", far.way(-1), SquareCaller.LONG);
        due.is("at: a wrong dancer, and nobody there", far.at(8, 2), BAD);
        due.is("would: BAD ahead of NOT", Due.would(far, "ring,ring"), BAD);
        due.is("would: NOT", Due.would(far, "pass"), NOT);
        due.is("dance: the FAULT ahead of FULL", Due.dance(Witness.withCalls(200), "left,"), -105);
        due.is("dance: FULL", Due.dance(Witness.withCalls(200), "left"), FULL);
    }

    private void changesNothing() {
        Witness.refused(due, "feed(127)", Witness::busyWithTape, x -> x.feed(127), BAD);
        Witness.refused(due, "fall(-2)", Witness::busyWithTape, x -> x.fall(-2), BAD);
        Witness.refused(due, "fall(5)", Witness::busyWithTape, x -> x.fall(5), NOT);
        Witness.refused(due, "at(8, 0)", Witness::busyWithTape, x -> x.at(8, 0), BAD);
        Witness.refused(due, "at(0, 6)", Witness::busyWithTape, x -> x.at(0, 6), BAD);
        Witness.refused(due, "at(6, 2)", Witness::busyWithTape, x -> x.at(6, 2), NOT);
        Witness.refused(due, "on(16)", Witness::busyWithTape, x -> x.on(16), BAD);
        Witness.refused(due, "on(0)", Witness::busyWithTape, x -> x.on(0), NOT);
        Witness.refused(due, "meant(9)", Witness::busyWithTape, x -> x.meant(9), BAD);
        Witness.refused(due, "count(3)", Witness::busyWithTape, x -> x.count(3), BAD);
        Witness.refused(due, "way(-2)", Witness::busyWithTape, x -> x.way(-2), BAD);
        Witness.refused(due, "alike(2)", Witness::busyWithTape, x -> x.alike(2), BAD);
        Witness.refused(due, "alike(1)", Witness::busyWithTape, x -> x.alike(1), NOT);
        Witness.refused(due, "squares(3)", Witness::busyWithTape, x -> x.squares(3), BAD);
        Witness.refused(due, "text(-2)", Witness::busyWithTape, x -> x.text(-2), BAD);
        Witness.refused(due, "text(99)", Witness::busyWithTape, x -> x.text(99), NOT);
        Witness.refused(due, "picture(-2)", Witness::busyWithTape, x -> x.picture(-2), BAD);
        Witness.refused(due, "picture(36)", Witness::busyWithTape, x -> x.picture(36), NOT);
        Witness.refused(due, "call(-2)", Witness::busyWithTape, x -> x.call(-2), BAD);
        Witness.refused(due, "call(4)", Witness::busyWithTape, x -> x.call(4), NOT);
        Witness.refused(due, "danced(12)", Witness::busyWithTape, x -> x.danced(12), BAD);
    }

    private void tillOneFalls() {
        SquareCaller x = new SquareCaller();
        due.is("the first falls", Due.dance(x, "pass,left"), 0);
        due.is("nothing of the rest is danced", x.call(-1), 0);
        due.is("the last falls", Due.dance(x, "left,right,pass"), 2);
        due.is("what was ahead of it stays danced", Due.text(x), "left,right");
        due.is("none falls", Due.dance(x, "left,right"), 2);
        due.is("falls", Due.falls(x), "/0");
        // of four times, the third can't be danced
        SquareCaller times = Due.after("left");
        due.is("forward 4", Due.dance(times, "forward 4,left"), 1);
        due.is("the falls of the second", Due.falls(times), "1 21 41 61/0");
        due.is("each time is a call", Due.dance(new SquareCaller(), "left 4,right 3,left,around 2"), 10);
        SquareCaller each = Due.after("left 3");
        due.is("they are undone one by one", each.undo(), 2);
        due.is("and told one by one", each.call(1), 2);
    }

    private void twoHundred() {
        SquareCaller x = Witness.withCalls(199);
        due.is("199", x.call(-1), 199);
        due.is("the 200th", Due.dance(x, "right"), 1);
        due.is("200", x.call(-1), 200);
        due.is("call(199)", x.call(199), 3);
        due.is("the 201st", Due.dance(x, "right"), FULL);
        due.is("still 200", x.call(-1), 200);
        due.is("undone ones are not counted", x.undo(), 199);
        due.is("so one has room", Due.dance(x, "around"), 1);
        due.is("and no more", Due.dance(x, "around"), FULL);
        due.is("the latest", x.call(199), 4);
        due.is("since home()", x.home(), 200);
        due.is("none", x.call(-1), 0);
        due.is("there is room again", Due.dance(x, "left 4,left"), 5);
        SquareCaller none = new SquareCaller();
        due.is("none danced yet", none.call(-1), 0);
    }

    private void tillAnotherCall() {
        for (String text : new String[] {"heads forward", "around,heads back", "left", "right", "around",
            "heads forward,pass", "heads forward,star", "heads forward,box", "slide", "trade", "fold", "ring"}) {
            SquareCaller x = Due.after(text);
            String then = Due.picture(x);
            int calls = x.call(-1);
            x.undo();
            int comma = text.lastIndexOf(',');
            due.is(text + " undone", Due.picture(x), Due.picture(Due.after(comma < 0 ? "" : text.substring(0, comma))));
            due.is(text + " danced again", x.redo(), calls);
            due.is(text + ", the square", Due.picture(x), then);
        }
        again("a call that falls at once", 2, x -> Due.dance(x, "pass"));
        again("a text with a FAULT", 2, x -> Due.dance(x, "left,"));
        again("would()", 2, x -> Due.would(x, "left"));
        again("round()", 2, x -> Due.round(x, "left"));
        again("image()", 2, SquareCaller::image);
        again("way()", 2, x -> x.way(-1));
        again("another undo()", 1, SquareCaller::undo);
        again("another call", STATE, x -> Due.dance(x, "right"));
        again("the same call", STATE, x -> Due.dance(x, "men left"));
        again("a call, and one that falls", STATE, x -> Due.dance(x, "left,pass"));
        again("home()", STATE, SquareCaller::home);
        again("an image laid back", STATE, x -> x.image() + x.back());
        SquareCaller full = Witness.withCalls(200);
        full.undo();
        due.is("a text that is FULL", Due.dance(full, "left 2"), FULL);
        due.is("leaves what was undone", full.redo(), 200);
    }

    /** Whether what was undone can be danced again after something else. */
    private void again(String what, int answer, ToIntFunction<SquareCaller> call) {
        SquareCaller x = Due.after("left,men left");
        x.undo();
        call.applyAsInt(x);
        due.is("redo() after " + what, x.redo(), answer);
    }

    private void full() {
        due.is("199 and 1", Due.dance(Witness.withCalls(199), "left"), 1);
        due.is("199 and 2", Due.dance(Witness.withCalls(199), "left,left"), FULL);
        due.is("200 and 1", Due.dance(Witness.withCalls(200), "left"), FULL);
        due.is("196 and 4", Due.dance(Witness.withCalls(196), "left 4"), 4);
        due.is("197 and 4", Due.dance(Witness.withCalls(197), "left 4"), FULL);
        due.is("196 and 5", Due.dance(Witness.withCalls(196), "left 4,left"), FULL);
        // all calls of the TEXT are counted, though its first one falls
        SquareCaller falls = Witness.withCalls(120);
        due.is("120 and 80", Due.dance(falls, EIGHTY), 0);
        due.is("its fall", falls.fall(-1), 4);
        SquareCaller one = Witness.withCalls(121);
        due.is("121 and 80", Due.dance(one, EIGHTY), FULL);
        due.is("no fall", one.fall(-1), 0);
        due.is("199, one that falls", Due.dance(Witness.withCalls(199), "pass"), 0);
        due.is("200, one that falls", Due.dance(Witness.withCalls(200), "pass"), FULL);
        due.is("199, the first falls", Due.dance(Witness.withCalls(199), "pass,left"), FULL);
        Witness.empties(due, "200 and 1", () -> Witness.withCalls(200), "left", SquareCaller::dance, FULL);
        Witness.empties(due, "199 and 2", () -> Witness.withCalls(199), "left 2", SquareCaller::dance, FULL);
        Witness.empties(due, "200 and a fall", () -> Witness.withCalls(200), "pass", SquareCaller::dance, FULL);
    }

    private void fallsOfTheLatest() {
        String latest = "22 32 62 72/0";
        SquareCaller x = Due.after("heads forward,sides forward");
        due.is("the latest", Due.falls(x), latest);
        Due.dance(x, "left,");
        due.is("a FAULT changes nothing of it", Due.falls(x), latest);
        x.dance();
        due.is("nor does an empty tape", Due.falls(x), latest);
        x.undo();
        x.redo();
        due.is("nor do undo() and redo()", Due.falls(x), latest);
        x.image();
        x.back();
        due.is("nor do image() and back()", Due.falls(x), latest);
        x.home();
        due.is("nor does home()", Due.falls(x), latest);
        Due.would(x, "back");
        Due.round(x, "pass");
        x.way(-1);
        due.is("nor does what is thought", Due.falls(x), latest);
        Due.dance(x, "pass");
        due.is("the next one falls otherwise", Due.falls(x), "/4");
        Due.dance(x, "heads ring");
        due.is("and the next", Due.falls(x), "/5");
        Due.dance(x, "left");
        due.is("one without falls", Due.falls(x), "/0");
        // after 199 times left all look along the edge, to the right
        SquareCaller full = Witness.withCalls(199);
        due.is("one that falls", Due.dance(full, "slide"), 0);
        due.is("a FULL one", Due.dance(full, "left 2"), FULL);
        due.is("changes nothing of it", Due.falls(full), "/4");
    }

    private void howManyFall() {
        due.is("of a new object", new SquareCaller().fall(0), 0);
        due.is("none", Due.after("left").fall(0), 0);
        due.is("it had 4", Due.after("pass").fall(0), 0);
        due.is("it had 5", Due.after("heads ring").fall(0), 0);
        due.is("two", Due.after("around,heads fold").fall(0), 2);
        due.is("four", Due.after("men back").fall(0), 4);
        due.is("all eight", Due.after("back").fall(0), 8);
    }

    private void whoFalls() {
        SquareCaller x = Due.after("back");
        for (int i = 0; i < 8; i++) {
            due.is("fall(" + (1 + i) + ")", x.fall(1 + i), 10 * i + 1);
        }
        due.is("neither 4 nor 5", x.fall(-1), 0);
        SquareCaller y = Due.after("sides forward,forward");
        int[] rows = {3, 13, 22, 32, 43, 53, 62, 72};
        for (int i = 0; i < 8; i++) {
            due.is("fall(" + (1 + i) + ") of two kinds", y.fall(1 + i), rows[i]);
        }
        due.is("4", Due.after("pass").fall(-1), 4);
        due.is("5", Due.after("heads ring").fall(-1), 5);
        due.is("neither, of a new object", new SquareCaller().fall(-1), 0);
        due.is("neither, as none falls", Due.after("left").fall(-1), 0);
    }

    private void noSuchFall() {
        SquareCaller none = Due.after("left");
        SquareCaller four = Due.after("men back");
        SquareCaller eight = Due.after("back");
        SquareCaller alone = Due.after("pass");
        for (int what : new int[] {-2, -3, -100, Integer.MIN_VALUE}) {
            due.is("fall(" + what + ")", eight.fall(what), BAD);
            due.is("fall(" + what + ") of none", none.fall(what), BAD);
        }
        due.is("fall(0) of none", none.fall(0), 0);
        due.is("fall(1) of none", none.fall(1), NOT);
        due.is("fall(1) of 4 alone", alone.fall(1), NOT);
        due.is("fall(4) of four", four.fall(4), 61);
        due.is("fall(5) of four", four.fall(5), NOT);
        due.is("fall(8) of eight", eight.fall(8), 71);
        due.is("fall(9) of eight", eight.fall(9), NOT);
        due.is("fall(MAX)", eight.fall(Integer.MAX_VALUE), NOT);
    }

    private void wouldBe(String text, String call, int answer) {
        Witness.empties(due, text + "; would() of " + call, () -> Due.after(text), call, SquareCaller::would, answer);
    }

    private void howManyWould() {
        wouldBe("heads forward,sides left,slide", "heads pass", 1);
        wouldBe("heads forward", "pass", 2);
        wouldBe("heads forward,star,left,ladies around", "slide", 3);
        wouldBe("", "fold", 4);
        wouldBe("heads forward,sides left,slide,heads back", "centers left", 1);
        wouldBe("", "men around", 4);
        wouldBe("", "all left", 8);
        wouldBe("left", "forward", 8);
        wouldBe("", "ring", 8);
        wouldBe("", "outers ring", 8);
        Witness.empties(due, "would() where THE DANCE is full", () -> Witness.withCalls(200), "left",
                SquareCaller::would, 8);
    }

    private void wouldNot() {
        Witness.empties(due, "one call", Witness::busy, "left", SquareCaller::would, 8);
        Witness.empties(due, "two calls", Witness::busy, "left,left", SquareCaller::would, BAD);
        Witness.empties(due, "one call, twice", Witness::busy, "left 2", SquareCaller::would, BAD);
        Witness.empties(due, "one call, four times", Witness::busy, "men left 4", SquareCaller::would, BAD);
        Witness.empties(due, "most calls", Witness::busy, EIGHTY, SquareCaller::would, BAD);
        Witness.empties(due, "two that fall", Witness::busy, "ring,ring", SquareCaller::would, BAD);
        Witness.empties(due, "one that falls with 5", Witness::busy, "ring", SquareCaller::would, NOT);
        Witness.empties(due, "one that falls with 4", Witness::busy, "ladies pass", SquareCaller::would, NOT);
        Witness.empties(due, "one by whom dancers fall", Witness::busy, "back", SquareCaller::would, NOT);
    }

    private void undo() {
        SquareCaller x = Due.after("left,right");
        due.is("undo of two", x.undo(), 1);
        due.is("undo of one", x.undo(), 0);
        due.is("undo of none", x.undo(), STATE);
        due.is("undo of the 200th", Witness.withCalls(200).undo(), 199);
        Witness.refused(due, "undo() of a new object", SquareCaller::new, SquareCaller::undo, STATE);
        Witness.refused(due, "undo() where all are undone", () -> {
            SquareCaller all = Due.after("left,right");
            all.undo();
            all.undo();
            Due.feed(all, "heads lef");
            return all;
        }, SquareCaller::undo, STATE);
        SquareCaller home = Due.after("left");
        home.home();
        due.is("undo() after home()", home.undo(), STATE);
        SquareCaller laid = new SquareCaller();
        laid.image();
        Due.dance(laid, "left");
        laid.back();
        due.is("undo() of an image without calls", laid.undo(), STATE);
        // what fell is no call of THE DANCE
        SquareCaller fell = Due.after("left,pass");
        due.is("undo() of the one ahead of the fall", fell.undo(), 0);
        SquareCaller many = Witness.withCalls(100);
        for (int i = 99; i >= 0; i--) {
            due.is("one by one", many.undo(), i);
        }
        due.is("none is left", many.undo(), STATE);
    }

    private void redo() {
        SquareCaller x = Due.after("left,right");
        due.is("nothing was undone", x.redo(), STATE);
        x.undo();
        x.undo();
        due.is("what was undone last", x.redo(), 1);
        due.is("it is left", x.call(0), 2);
        due.is("and then", x.redo(), 2);
        due.is("it is right", x.call(1), 3);
        due.is("no more", x.redo(), STATE);
        Witness.refused(due, "redo() of a new object", SquareCaller::new, SquareCaller::redo, STATE);
        Witness.refused(due, "redo() with nothing undone", () -> {
            SquareCaller none = Due.after("left,right");
            Due.feed(none, "heads lef");
            return none;
        }, SquareCaller::redo, STATE);
        SquareCaller full = Witness.withCalls(200);
        for (int i = 199; i >= 130; i--) {
            full.undo();
        }
        for (int i = 131; i <= 200; i++) {
            due.is("up to 200", full.redo(), i);
        }
        due.is("the 201st", full.redo(), STATE);
    }

    private void home() {
        due.is("home() of a new object", new SquareCaller().home(), 0);
        due.is("home() after one call", Due.after("left").home(), 1);
        due.is("home() after 200", Witness.withCalls(200).home(), 200);
        SquareCaller undone = Due.after("left 3");
        undone.undo();
        due.is("home() with one undone", undone.home(), 2);
        due.is("nothing to be danced again", undone.redo(), STATE);
        due.is("nothing to be undone", undone.undo(), STATE);
        due.is("home() again", undone.home(), 0);
        due.is("all are HOME", Due.picture(undone), AT_HOME);
        // THE TAPE, the image, the falls and what was danced stay
        SquareCaller x = Witness.busyWithTape();
        String falls = Due.falls(x);
        int turns = x.danced(2);
        due.is("home()", x.home(), 4);
        due.is("all are HOME", Due.picture(x), AT_HOME);
        due.is("the falls", Due.falls(x), falls);
        due.is("danced(2)", x.danced(2), turns);
        due.is("the tape", x.feed('t'), 10);
        due.is("is danced", x.dance(), 1);
        due.is("the image", x.back(), 3);
    }
}

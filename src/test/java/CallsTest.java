/** Promises 1 to 8: a new object, feed, dance, fall, would, undo, redo, home. */
public final class CallsTest {
    private static final Due due = new Due();
    private static final String AT_HOME = "..6v5v..|7>....4<|8>....3<|..1^2^..|";
    private static final int[] STRANGE = {Integer.MIN_VALUE, Integer.MAX_VALUE};

    public static void main(String[] args) {
        newObject();
        feed();
        feedFull();
        movesOfOne();
        movesOfPairs();
        partners();
        ring();
        times();
        faults();
        danceFull();
        fallsOfDancers();
        fallsOfNobody();
        fallsStay();
        would();
        wouldNot();
        undoAndRedo();
        redoEnds();
        home();
        due.end("CallsTest");
    }

    private static void newObject() {
        SquareCaller x = new SquareCaller();
        due.is("1: picture", Due.picture(x), AT_HOME);
        due.is("1: count(1)", x.count(1), 8);
        due.is("1: call(-1)", x.call(-1), 0);
        due.is("1: text(-1)", x.text(-1), 0);
        due.is("1: squares(0)", x.squares(0), 1);
        due.is("1: fall(0)", x.fall(0), 0);
        due.is("1: fall(-1)", x.fall(-1), 0);
        due.is("1: fall(1)", x.fall(1), SquareCaller.NOT);
        due.is("1: undo()", x.undo(), SquareCaller.STATE);
        due.is("1: redo()", x.redo(), SquareCaller.STATE);
        due.is("1: back()", x.back(), SquareCaller.STATE);
        due.is("1: alike(0)", x.alike(0), SquareCaller.STATE);
        due.is("1: home()", x.home(), 0);
        for (int figure = 0; figure < 12; figure++) {
            due.is("1: danced(" + figure + ")", x.danced(figure), 0);
        }
        due.is("1: feed, the tape being empty", x.feed('a'), 1);
    }

    private static void feed() {
        SquareCaller x = new SquareCaller();
        due.is("2: feed(31)", x.feed(31), SquareCaller.BAD);
        due.is("2: feed(127)", x.feed(127), SquareCaller.BAD);
        due.is("2: feed(10)", x.feed(10), SquareCaller.BAD);
        due.is("2: feed(-1)", x.feed(-1), SquareCaller.BAD);
        due.is("2: feed(256 + 97)", x.feed(256 + 97), SquareCaller.BAD);
        for (int n : STRANGE) {
            due.is("2: feed(" + n + ")", x.feed(n), SquareCaller.BAD);
        }
        due.is("2: feed(32)", x.feed(32), 1);
        due.is("2: feed(126)", x.feed(126), 2);
        due.is("2: feed(200) with a tape", x.feed(200), SquareCaller.BAD);
        due.is("2: feed(65)", x.feed(65), 3);
    }

    private static void feedFull() {
        SquareCaller x = new SquareCaller();
        String text = "left,".repeat(23) + "right";
        for (int i = 0; i < 120; i++) {
            due.is("2: feed number " + i, x.feed(text.charAt(i)), i + 1);
        }
        due.is("2: byte 121", x.feed('s'), SquareCaller.FULL);
        due.is("2: byte 121 again", x.feed(' '), SquareCaller.FULL);
        due.is("2: BAD is named ahead of FULL", x.feed(31), SquareCaller.BAD);
        due.is("2: the full tape is danced", x.dance(), 24);
        due.is("2: the tape is empty then", x.feed('s'), 1);
    }

    private static void danceTo(String text, String picture) {
        SquareCaller x = new SquareCaller();
        due.is("3: " + text, Due.dance(x, text), text.split(",").length);
        due.is("3: picture after " + text, Due.picture(x), picture);
        due.is("3: no falls after " + text, Due.falls(x), "/0");
    }

    private static void movesOfOne() {
        danceTo("heads forward", "........|7>6v5v4<|8>1^2^3<|........|");
        danceTo("sides forward", "..6v5v..|..7>4<..|..8>3<..|..1^2^..|");
        danceTo("heads forward,heads back", AT_HOME);
        danceTo("around,heads back", "........|7<6^5^4>|8<1v2v3>|........|");
        danceTo("left", "..6>5>..|7^....4v|8^....3v|..1<2<..|");
        danceTo("right", "..6<5<..|7v....4^|8v....3^|..1>2>..|");
        danceTo("around", "..6^5^..|7<....4>|8<....3>|..1v2v..|");
        danceTo("all around", "..6^5^..|7<....4>|8<....3>|..1v2v..|");
        danceTo("men right", "..6v5<..|7v....4<|8>....3^|..1>2^..|");
        danceTo("ladies left", "..6>5v..|7>....4v|8^....3<|..1^2<..|");
        danceTo("men forward", "..6v....|..7>5v4<|8>1^3<..|....2^..|");
        danceTo("belles around", "..6^5v..|7>....4>|8<....3<|..1^2v..|");
        danceTo("beaus around", "..6v5^..|7<....4<|8>....3>|..1v2^..|");
        danceTo("heads forward,centers around", "........|7>6^5^4<|8>1v2v3<|........|");
        danceTo("heads forward,outers around", "........|7<6v5v4>|8<1^2^3>|........|");
        // those who go leave their cells for those behind them
        danceTo("heads forward,sides right,outers forward", "......4^|..6v5v3^|7v1^2^..|8v......|");
    }

    private static void movesOfPairs() {
        danceTo("heads forward,pass", "........|7>1^2^4<|8>6v5v3<|........|");
        danceTo("heads forward,heads star", "........|7>1>2<4<|8>6>5<3<|........|");
        danceTo("heads forward,heads box", "........|7>1>2>4<|8>6<5<3<|........|");
        danceTo("slide", "..5v6v..|8>....3<|7>....4<|..2^1^..|");
        danceTo("sides slide", "..6v5v..|8>....3<|7>....4<|..1^2^..|");
        danceTo("trade", "..5^6^..|8<....3>|7<....4>|..2v1v..|");
        danceTo("heads fold", "....5v..|7>..6^4<|8>2v..3<|..1^....|");
        danceTo("fold", "....5v..|7>8<6^..|..2v4>3<|..1^....|");
    }

    private static void partners() {
        // two men face one another at each end, and nobody else does
        String meeting = "sides forward,sides slide,sides right";
        danceTo(meeting, "..6v5v..|..8v3^..|..7v4^..|..1^2^..|");
        danceTo(meeting + ",pass", "..6v3^..|..8v5v..|..1^4^..|..7v2^..|");
        danceTo(meeting + ",box", "..6v3>..|..8v5<..|..1>4^..|..7<2^..|");
        due.is("3: no star of two men", Due.dance(Due.after(meeting), "star"), 0);
        // only those who are meant make pairs
        due.is("3: men have no pair to slide with", Due.dance(new SquareCaller(), "men slide"), 0);
        // 0 has one at each side that faces as it does, and takes the one at its right
        danceTo("heads forward,sides left", "........|7^6v5v4v|8^1^2^3v|........|");
        danceTo("heads forward,sides left,slide", "........|7^6v4v5v|8^2^1^3v|........|");
        // 0 has one at its left alone
        danceTo("slide,slide", AT_HOME);
        danceTo("heads right,heads back", "....6<5<|7>....4<|8>....3<|1>2>....|");
        danceTo("heads right,heads back,slide", "....6<5<|7>....3<|1>....4<|8>2>....|");
        danceTo("slide,heads fold", "....6v..|8>..5^3<|7>1v..4<|..2^....|");
        // the left one of a fold does not change
        SquareCaller x = Due.after("heads fold");
        due.is("3: left of a fold stands", x.at(0, 0), 1);
        due.is("3: left of a fold faces", x.at(0, 1), 0);
        due.is("3: right of a fold stands", x.at(1, 0), 5);
        due.is("3: right of a fold faces", x.at(1, 1), 2);
    }

    private static void ring() {
        danceTo("ring", "..5v4v..|6>....3<|7>....2<|..8^1^..|");
        // whoever stands there, however they face
        danceTo("slide,left,ring", "..6v3v..|5>....4<|8>....1<|..7^2^..|");
        // all may be meant by another word than all
        danceTo("outers ring", "..5v4v..|6>....3<|7>....2<|..8^1^..|");
        SquareCaller x = new SquareCaller();
        due.is("3: ring 4,ring 4", Due.dance(x, "ring 4,ring 4"), 8);
        due.is("3: the ring closes after eight", Due.picture(x), AT_HOME);
    }

    private static void times() {
        SquareCaller x = new SquareCaller();
        due.is("3: left 2", Due.dance(x, "left 2"), 2);
        due.is("3: left 3", Due.dance(x, "left 3"), 3);
        due.is("3: left 4", Due.dance(x, "left 4"), 4);
        due.is("3: men left 3,ladies left 2", Due.dance(x, "men left 3,ladies left 2"), 5);
        due.is("3: calls in all", x.call(-1), 14);
        // who is meant is looked at anew each time: the heads are centers once only
        due.is("3: till one falls", Due.dance(Due.after("heads forward,heads around"), "centers forward 2"), 1);
    }

    private static void fault(String text, int where) {
        SquareCaller x = new SquareCaller();
        Due.dance(x, "heads forward");
        due.is("3: FAULT of \"" + text + "\"", Due.dance(x, text), -100 - where);
        due.is("3: nothing is danced by \"" + text + "\"", x.call(-1), 1);
        due.is("3: the tape is empty after \"" + text + "\"", x.feed('r'), 1);
        due.is("5: FAULT of \"r" + text + "\"", Due.would(x, text), -100 - Model.fault("r" + text));
        due.is("5: FAULT of \"" + text + "\"", Due.would(x, text), -100 - where);
        due.is("14: FAULT of \"" + text + "\"", Due.round(x, text), -100 - where);
        due.is("14: the tape is empty after \"" + text + "\"", x.feed('r'), 1);
    }

    private static void faults() {
        fault("", 0);
        fault(" ", 0);
        fault("2", 0);
        fault(",", 0);
        fault("LEFT", 0);
        fault("lef", 0);
        fault("leftt", 0);
        fault("headsleft", 0);
        fault("head left", 0);
        fault("heads", 5);
        fault("heads ", 6);
        fault("heads  left", 6);
        fault("heads,left", 5);
        fault("heads2", 5);
        fault("heads heads", 6);
        fault("heads lef", 6);
        fault("heads Left", 6);
        fault("heads 2", 6);
        fault("left ", 5);
        fault("left  2", 5);
        fault("left 1", 5);
        fault("left 5", 5);
        fault("left 0", 5);
        fault("left right", 5);
        fault("left heads", 5);
        fault("left2", 4);
        fault("left.", 4);
        fault("left 22", 6);
        fault("left 2x", 6);
        fault("left 2 ", 6);
        fault("left,", 5);
        fault("left,,left", 5);
        fault("left, left", 5);
        fault("left ,left", 5);
        fault("left 2,x", 7);
        fault("left,heads righ", 11);
        fault("left 2,heads right 4,men", 24);
        fault("left`", 4);
        fault("left{", 4);
        fault("leftz", 0);
        fault("lefta", 0);
        fault("xeft", 0);
        fault("heads yight", 6);
        fault("x".repeat(120), 0);
        fault("left,".repeat(24), 120);
    }

    private static void danceFull() {
        SquareCaller x = new SquareCaller();
        String many = "left 4,".repeat(13) + "left 4";
        for (int i = 1; i <= 3; i++) {
            due.is("3: 56 calls more", Due.dance(x, many), 56);
        }
        due.is("3: 28 calls more", Due.dance(x, "left 4,".repeat(6) + "left 4"), 28);
        due.is("3: a call that falls as the last", Due.dance(x, "centers left"), 0);
        due.is("3: five calls where four have room", Due.dance(x, "left 4,left"), SquareCaller.FULL);
        due.is("3: nothing was danced", x.call(-1), 196);
        due.is("3: fall is that of the dance before", x.fall(-1), 4);
        due.is("3: the tape is empty then", x.feed('l'), 1);
        due.is("3: a fault is told though it is full", Due.dance(x, "eft 4,left "), -112);
        due.is("3: FULL though the first would fall", Due.dance(x, "ring,heads ring,left 3"), SquareCaller.FULL);
        due.is("3: up to 200", Due.dance(x, "left 4"), 4);
        due.is("3: the 201st", Due.dance(x, "left"), SquareCaller.FULL);
        due.is("3: call(199)", x.call(199), 2);
        due.is("3: call(200)", x.call(200), SquareCaller.NOT);
        due.is("6: undo of the 200th", x.undo(), 199);
        due.is("7: redo of the 200th", x.redo(), 200);
        due.is("21: image of 200", x.image(), 200);
        due.is("8: home from 200", x.home(), 200);
        due.is("22: back to 200", x.back(), 200);
        due.is("22: the 201st", Due.dance(x, "left"), SquareCaller.FULL);
    }

    private static void falling(String before, String text, String falls) {
        SquareCaller x = Due.after(before);
        String picture = Due.picture(x);
        due.is("4: " + before + "; " + text + " falls", Due.dance(x, text), 0);
        due.is("4: " + before + "; " + text, Due.falls(x), falls);
        due.is("4: nobody moves by " + text, Due.picture(x), picture);
    }

    private static void fallsOfDancers() {
        falling("", "back", "1 11 21 31 41 51 61 71/0");
        falling("", "men back", "1 21 41 61/0");
        falling("", "forward", "3 13 23 33 43 53 63 73/0");
        falling("heads forward", "sides forward", "22 32 62 72/0");
        falling("sides forward", "sides forward", "22 32 62 72/0");
        falling("sides forward", "forward", "3 13 22 32 43 53 62 72/0");
        falling("sides forward", "sides fold", "32 72/0");
        falling("around", "fold", "1 21 41 61/0");
        falling("heads forward", "sides fold", "32 72/0");
        falling("heads forward", "fold", "12 33 52 73/0");
        falling("sides fold,star", "fold", "13 33 53 73/0");
        // who goes off leaves its cell: the one behind it has no fall of its own
        falling("heads fold,men around", "heads forward", "1 41/0");
        falling("left,forward", "forward", "1 21 41 61/0");
        due.is("4: fall(0)", Due.after("back").fall(0), 8);
        due.is("4: fall(8)", Due.after("back").fall(8), 71);
        due.is("4: fall(9)", Due.after("back").fall(9), SquareCaller.NOT);
        for (int what : new int[] {-2, -100, Integer.MIN_VALUE}) {
            due.is("4: fall(" + what + ")", Due.after("back").fall(what), SquareCaller.BAD);
        }
        due.is("4: fall(MAX)", Due.after("back").fall(Integer.MAX_VALUE), SquareCaller.NOT);
    }

    private static void fallsOfNobody() {
        falling("", "centers left", "/4");
        falling("heads forward,around", "pass", "/4");
        falling("", "pass", "/4");
        falling("", "star", "/4");
        falling("", "box", "/4");
        falling("", "men slide", "/4");
        falling("men around", "trade", "/4");
        falling("men around", "fold", "/4");
        falling("", "heads ring", "/5");
        falling("heads forward", "ring", "/5");
        falling("sides forward,outers right,trade,outers right,centers forward", "ring", "/5");
        // nobody is meant: that is named first, of the ring, too
        falling("", "centers ring", "/4");
        // seven of HOME's cells are taken, and the first one is not
        SquareCaller x = Due.after("men forward,centers forward,ladies around,sides left,trade,centers slide");
        due.is("4: on to seven cells",
                Due.dance(x, "belles around,heads left,outers right,sides around,centers forward"), 5);
        due.is("4: the first cell is free", x.on(1), SquareCaller.NOT);
        due.is("4: seven are taken", Due.dance(x, "ring") * 10 + x.fall(-1), 5);
        due.is("4: fall(1) of nobody", Due.after("centers left").fall(1), SquareCaller.NOT);
    }

    private static void fallsStay() {
        SquareCaller x = Due.after("heads forward,sides forward,left");
        due.is("4: one call ahead of the fall", x.call(-1), 1);
        due.is("4: falls", Due.falls(x), "22 32 62 72/0");
        Due.dance(x, "left,");
        due.is("4: a fault changes nothing of it", Due.falls(x), "22 32 62 72/0");
        Due.would(x, "pass");
        Due.would(x, "back");
        Due.round(x, "centers ring");
        x.way(-1);
        due.is("4: nor do calls in thought", Due.falls(x), "22 32 62 72/0");
        x.undo();
        x.redo();
        x.image();
        x.home();
        x.back();
        due.is("4: nor undo, redo, home, back", Due.falls(x), "22 32 62 72/0");
        Due.dance(x, "heads ring");
        due.is("4: the next one that falls", Due.falls(x), "/5");
        Due.dance(x, "left");
        due.is("4: one without falls", Due.falls(x), "/0");
    }

    private static void would() {
        SquareCaller x = new SquareCaller();
        due.is("5: slide", Due.would(x, "slide"), 4);
        due.is("5: heads trade", Due.would(x, "heads trade"), 2);
        due.is("5: fold", Due.would(x, "fold"), 4);
        due.is("5: left", Due.would(x, "left"), 8);
        due.is("5: men around", Due.would(x, "men around"), 4);
        due.is("5: heads forward", Due.would(x, "heads forward"), 4);
        due.is("5: ring", Due.would(x, "ring"), 8);
        due.is("5: outers ring", Due.would(x, "outers ring"), 8);
        due.is("5: the tape is empty then", x.feed('l'), 1);
        due.is("5: nothing is danced", x.call(-1), 0);
        due.is("5: nobody moved", Due.picture(x), AT_HOME);
        due.is("5: nothing is counted", x.danced(2), 0);
        due.is("5: two men face one another twice",
                Due.would(Due.after("sides forward,sides slide,sides right"), "pass"), 2);
        due.is("5: heads pass", Due.would(Due.after("heads forward"), "heads pass"), 2);
    }

    private static void wouldNot() {
        SquareCaller x = new SquareCaller();
        due.is("5: two calls", Due.would(x, "left,left"), SquareCaller.BAD);
        due.is("5: the tape is empty then, too", x.feed('l'), 1);
        due.is("5: twice", Due.would(x, "eft 2"), SquareCaller.BAD);
        due.is("5: BAD ahead of NOT", Due.would(x, "forward 2"), SquareCaller.BAD);
        due.is("5: it falls", Due.would(x, "forward"), SquareCaller.NOT);
        due.is("5: the tape is empty after a fall", x.feed('p'), 1);
        due.is("5: no pair", Due.would(x, "ass"), SquareCaller.NOT);
        due.is("5: nobody", Due.would(x, "centers left"), SquareCaller.NOT);
        due.is("5: no ring", Due.would(x, "men ring"), SquareCaller.NOT);
        due.is("5: an empty tape", Due.would(x, ""), -100);
    }

    private static void undoAndRedo() {
        SquareCaller x = Due.after("heads forward,heads pass,left");
        String third = Due.picture(x);
        due.is("6: undo", x.undo(), 2);
        due.is("6: as ahead of the latest", Due.picture(x), "........|7>1^2^4<|8>6v5v3<|........|");
        due.is("6: undo", x.undo(), 1);
        due.is("6: as ahead of the pass", Due.picture(x), "........|7>6v5v4<|8>1^2^3<|........|");
        due.is("6: undo", x.undo(), 0);
        due.is("6: HOME", Due.picture(x), AT_HOME);
        due.is("6: none", x.undo(), SquareCaller.STATE);
        due.is("7: redo", x.redo(), 1);
        due.is("7: what was undone last", Due.picture(x), "........|7>6v5v4<|8>1^2^3<|........|");
        due.is("7: redo", x.redo(), 2);
        due.is("7: redo", x.redo(), 3);
        due.is("7: all danced again", Due.picture(x), third);
        due.is("7: none", x.redo(), SquareCaller.STATE);
        due.is("7: text", Due.text(x), "heads forward,heads pass,left");
    }

    private static void redoEnds() {
        SquareCaller x = Due.after("left,right,around");
        x.undo();
        x.undo();
        Due.dance(x, "centers left");
        Due.dance(x, "cent");
        Due.would(x, "left");
        due.is("7: a call that was not danced changes nothing", x.redo(), 2);
        due.is("6: undo", x.undo(), 1);
        due.is("3: another call", Due.dance(x, "men left,pass"), 1);
        due.is("7: none is left then", x.redo(), SquareCaller.STATE);
        x.undo();
        x.image();
        due.is("7: an image changes nothing of it", x.redo(), 2);
        due.is("7: text", Due.text(x), "left,men left");
    }

    private static void home() {
        SquareCaller x = Due.after("left,right,around");
        x.undo();
        due.is("8: home", x.home(), 2);
        due.is("8: all are HOME", Due.picture(x), AT_HOME);
        due.is("8: THE DANCE is empty", x.call(-1), 0);
        due.is("8: nothing to be danced again", x.redo(), SquareCaller.STATE);
        due.is("8: nothing to be undone", x.undo(), SquareCaller.STATE);
        due.is("8: home again", x.home(), 0);
        Due.feed(x, "lef");
        x.home();
        due.is("8: the tape stays", Due.dance(x, "t"), 1);
        due.is("8: a new dance", Due.text(x), "left");
    }
}

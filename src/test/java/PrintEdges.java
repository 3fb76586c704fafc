/** The boundaries of the dance printed and of the image: promises 17 to 22. */
final class PrintEdges {
    private static final int BAD = SquareCaller.BAD;
    private static final int NOT = SquareCaller.NOT;
    private static final int STATE = SquareCaller.STATE;
    private static final int[] BELOW = {-2, -3, -100, Integer.MIN_VALUE};
    private static final String AT_HOME = "..6v5v..|7>....4<|8>....3<|..1^2^..|";

    private final Due due;

    PrintEdges(Due due) {
        this.due = due;
    }

    void all(Edges on) {
        on.sentence(17, "Byte i of THE DANCE as a TEXT (WHO but all, a blank, FIGURE;", this::words);
        on.sentence(17, "calls side by side that are the same told once, with a blank and how many, up to 4 at "
                + "a time;", this::toldOnce);
        on.sentence(17, "NOT: it has fewer); i -1: how many. BAD.", this::bytesOfTheText);
        on.sentence(18, "rows from y 3 down, each cell two bytes: the DANCER's figure 1 .. 8 (one more than its "
                + "number)", this::cellsOfThePicture);
        on.sentence(18, "or two dots; behind each row a byte 10; i -1: how many. BAD; NOT: there are not as "
                + "many.", this::bytesOfThePicture);
        on.sentence(19, "The i-th call of THE DANCE: 100 times WHO's number, and the FIGURE's;", this::codes);
        on.sentence(19, "i -1: how many. BAD; NOT: there are not as many.", this::callsOfTheDance);
        on.sentence(20, "How many times a FIGURE (0 .. 11) was danced so far (undone ones, too; danced again "
                + "anew). BAD.", this::danced);
        on.sentence(0, "AN IMAGE keeps SQUARE and DANCE.", this::keeps);
        on.sentence(21, "AN IMAGE is kept: calls of THE DANCE.", this::image);
        on.sentence(22, "It is laid back (nothing is there to be danced again): calls of THE DANCE. STATE: "
                + "there is none.", this::back);
    }

    private void printed(String text, String print) {
        due.is("the text of " + text, Due.text(Due.after(text)), print);
    }

    private void words() {
        printed("", "");
        printed("left", "left");
        printed("all left", "left");
        printed("heads left", "heads left");
        printed("all left,heads left,all right", "left,heads left,right");
        // each word of WHO, each FIGURE
        printed("heads left,sides left,men left,ladies left", "heads left,sides left,men left,ladies left");
        printed("outers left,heads forward,centers left", "outers left,heads forward");
        printed("heads forward,centers left,outers right", "heads forward,centers left,outers right");
        printed("belles left", "belles left");
        printed("beaus left", "beaus left");
        printed("heads forward,heads back,left,right,around 2", "heads forward,heads back,left,right,around 2");
        printed("heads forward,pass", "heads forward,pass");
        printed("heads forward,star", "heads forward,star");
        printed("heads forward,box", "heads forward,box");
        printed("slide,trade,ring", "slide,trade,ring");
        printed("fold", "fold");
        // what falls is not printed, nor what comes behind it
        printed("left,pass,right", "left");
    }

    private void toldOnce() {
        printed("left", "left");
        printed("left,left", "left 2");
        printed("left 3", "left 3");
        printed("left 4", "left 4");
        printed("left 4,left", "left 4,left");
        printed("left,left 4", "left 4,left");
        printed("left 3,left 3", "left 4,left 2");
        printed("left 4,left 3", "left 4,left 3");
        printed("left 4,left 4", "left 4,left 4");
        printed("left 4,left 4,left", "left 4,left 4,left");
        // the same FIGURE, but not the same call; the same call, but not side by side
        printed("left,heads left", "left,heads left");
        printed("heads left 2,sides left 2", "heads left 2,sides left 2");
        printed("left,right,left", "left,right,left");
        printed("all left,left", "left 2");
        // of several dances
        SquareCaller x = Due.after("left 2");
        Due.dance(x, "left 2");
        due.is("two and two", Due.text(x), "left 4");
        Due.dance(x, "left");
        due.is("and one", Due.text(x), "left 4,left");
        x.undo();
        due.is("undone", Due.text(x), "left 4");
        due.is("200 calls", Witness.withCalls(200).text(-1), 50 * 7 - 1);
        due.is("199 calls", Witness.withCalls(199).text(-1), 50 * 7 - 1);
        due.is("197 calls", Witness.withCalls(197).text(-1), 50 * 7 - 1 - 2);
    }

    private void bytesOfTheText() {
        SquareCaller none = new SquareCaller();
        due.is("text(-2) of none", none.text(-2), BAD);
        due.is("text(-1) of none", none.text(-1), 0);
        due.is("text(0) of none", none.text(0), NOT);
        SquareCaller x = Due.after("men left 2,right");
        due.is("text(-1)", x.text(-1), 16);
        due.is("text(0)", x.text(0), 'm');
        due.is("text(9)", x.text(9), '2');
        due.is("text(10)", x.text(10), ',');
        due.is("text(14)", x.text(14), 'h');
        due.is("text(15)", x.text(15), 't');
        due.is("text(16)", x.text(16), NOT);
        due.is("text(17)", x.text(17), NOT);
        due.is("text(MAX)", x.text(Integer.MAX_VALUE), NOT);
        for (int i : BELOW) {
            due.is("text(" + i + ")", x.text(i), BAD);
        }
        SquareCaller most = Witness.withCalls(200);
        due.is("the last byte of 200 calls", most.text(348), '4');
        due.is("behind it", most.text(349), NOT);
        Witness.refused(due, "text(-2)", Witness::busyWithTape, o -> o.text(-2), BAD);
        int length = Witness.busy().text(-1);
        Witness.refused(due, "text(length)", Witness::busyWithTape, o -> o.text(length), NOT);
    }

    private void cellsOfThePicture() {
        due.is("at home", Due.picture(new SquareCaller()), AT_HOME);
        // the corners: the first row's first and last cell, the last row's
        due.is("in the corners", Due.picture(Due.after("left,forward")), "7^..6>5>|8^......|......4v|1<2<..3v|");
        // the figures 1 and 8, and all four FACINGS of each
        String[] ones = {"1^", "1<", "1v", "1>"};
        String[] eights = {"8>", "8^", "8<", "8v"};
        SquareCaller x = new SquareCaller();
        for (int i = 0; i < 4; i++) {
            String picture = Due.picture(x);
            due.is("0 after " + i + " times left", picture.substring(29, 31), ones[i]);
            due.is("7 after " + i + " times left", picture.substring(18, 20), eights[i]);
            Due.dance(x, "left");
        }
    }

    private void bytesOfThePicture() {
        SquareCaller x = new SquareCaller();
        for (int i : BELOW) {
            due.is("picture(" + i + ")", x.picture(i), BAD);
        }
        due.is("picture(-1)", x.picture(-1), 36);
        due.is("picture(0)", x.picture(0), '.');
        due.is("picture(1)", x.picture(1), '.');
        due.is("picture(2)", x.picture(2), '6');
        due.is("picture(3)", x.picture(3), 'v');
        due.is("picture(7)", x.picture(7), '.');
        for (int row = 0; row < 4; row++) {
            due.is("the byte behind row " + row, x.picture(9 * row + 8), 10);
        }
        due.is("picture(9)", x.picture(9), '7');
        due.is("picture(10)", x.picture(10), '>');
        due.is("picture(16)", x.picture(16), '<');
        due.is("picture(30)", x.picture(30), '^');
        due.is("picture(34)", x.picture(34), '.');
        due.is("picture(35)", x.picture(35), 10);
        due.is("picture(36)", x.picture(36), NOT);
        due.is("picture(37)", x.picture(37), NOT);
        due.is("picture(MAX)", x.picture(Integer.MAX_VALUE), NOT);
        Witness.refused(due, "picture(-2)", Witness::busyWithTape, o -> o.picture(-2), BAD);
        Witness.refused(due, "picture(36)", Witness::busyWithTape, o -> o.picture(36), NOT);
    }

    private void code(String text, int code) {
        SquareCaller x = Due.after(text);
        due.is("the latest call of " + text, x.call(x.call(-1) - 1), code);
    }

    private void codes() {
        // the least, the greatest of WHO, the greatest of FIGURES
        code("left,forward", 0);
        code("left,all back", 1);
        code("heads forward", 100);
        code("beaus left", 802);
        code("ring", 11);
        code("outers ring", 611);
        code("beaus around", 804);
        code("heads forward,centers box", 507);
        code("belles right", 703);
    }

    private void callsOfTheDance() {
        SquareCaller none = new SquareCaller();
        due.is("call(-2) of none", none.call(-2), BAD);
        due.is("call(-1) of none", none.call(-1), 0);
        due.is("call(0) of none", none.call(0), NOT);
        SquareCaller x = Due.after("left,men right,ring");
        for (int i : BELOW) {
            due.is("call(" + i + ")", x.call(i), BAD);
        }
        due.is("call(-1)", x.call(-1), 3);
        due.is("call(0)", x.call(0), 2);
        due.is("call(1)", x.call(1), 303);
        due.is("call(2)", x.call(2), 11);
        due.is("call(3)", x.call(3), NOT);
        due.is("call(MAX)", x.call(Integer.MAX_VALUE), NOT);
        x.undo();
        due.is("call(1) with one undone", x.call(1), 303);
        due.is("call(2) with one undone", x.call(2), NOT);
        SquareCaller most = Witness.withCalls(200);
        due.is("call(199) of 200", most.call(199), 2);
        due.is("call(200) of 200", most.call(200), NOT);
        due.is("call(201) of 200", most.call(201), NOT);
        Witness.refused(due, "call(-2)", Witness::busyWithTape, o -> o.call(-2), BAD);
        Witness.refused(due, "call(4)", Witness::busyWithTape, o -> o.call(4), NOT);
        Witness.refused(due, "call(200)", () -> Witness.withCalls(200), o -> o.call(200), NOT);
    }

    private void danced() {
        SquareCaller x = Due.after("heads forward,heads back,ring 2");
        due.is("danced(-1)", x.danced(-1), BAD);
        due.is("danced(0)", x.danced(0), 1);
        due.is("danced(1)", x.danced(1), 1);
        due.is("danced(10)", x.danced(10), 0);
        due.is("danced(11)", x.danced(11), 2);
        due.is("danced(12)", x.danced(12), BAD);
        for (int figure : new int[] {-100, 100, Integer.MIN_VALUE, Integer.MAX_VALUE}) {
            due.is("danced(" + figure + ")", x.danced(figure), BAD);
        }
        x.undo();
        due.is("undone ones, too", x.danced(11), 2);
        x.redo();
        due.is("danced again anew", x.danced(11), 3);
        SquareCaller two = Due.after("left,right");
        two.undo();
        two.redo();
        due.is("the one that is danced again", two.danced(2) + 10 * two.danced(3), 1 + 10 * 2);
        due.is("a redo() that is refused", x.redo(), STATE);
        due.is("is none", x.danced(11), 3);
        x.undo();
        due.is("an undo() and another call", Due.dance(x, "ring"), 1);
        due.is("count both", x.danced(11), 4);
        Due.dance(x, "left,pass,left");
        due.is("up to the one that falls", x.danced(2), 1);
        due.is("which is not danced", x.danced(5), 0);
        Due.dance(x, "left,");
        due.is("a FAULT", x.danced(2), 1);
        SquareCaller full = Witness.withCalls(200);
        due.is("200", full.danced(2), 200);
        Due.dance(full, "left");
        due.is("FULL", full.danced(2), 200);
        full.undo();
        full.redo();
        due.is("more than 200", full.danced(2), 201);
        full.home();
        due.is("home() changes nothing of it", full.danced(2), 201);
        Witness.refused(due, "danced(-1)", Witness::busyWithTape, o -> o.danced(-1), BAD);
        Witness.refused(due, "danced(12)", Witness::busyWithTape, o -> o.danced(12), BAD);
    }

    private void keeps() {
        SquareCaller x = Due.after("heads forward,left 2");
        String square = Due.picture(x);
        x.image();
        Due.dance(x, "men right");
        due.is("back", x.back(), 3);
        due.is("its SQUARE", Due.picture(x), square);
        due.is("its DANCE", Due.text(x), "heads forward,left 2");
        // and neither THE TAPE nor falls nor what was danced
        Due.feed(x, "lef");
        x.image();
        due.is("the tape", x.feed('t'), 4);
        x.back();
        due.is("goes on", x.dance(), 1);
        Due.dance(x, "ring");
        x.back();
        due.is("the falls", Due.falls(x), "/5");
        due.is("danced(2)", x.danced(2), 3);
        due.is("danced(3)", x.danced(3), 1);
        // what happens behind it does not come into it
        x.undo();
        x.undo();
        due.is("undone behind it", x.back(), 3);
        x.home();
        Due.dance(x, "ring");
        due.is("another dance behind it", x.back(), 3);
        due.is("the same dance still", Due.text(x), "heads forward,left 2");
    }

    private void image() {
        SquareCaller x = new SquareCaller();
        due.is("of none", x.image(), 0);
        Due.dance(x, "left");
        due.is("of one", x.image(), 1);
        due.is("of one again", x.image(), 1);
        x.undo();
        due.is("with one undone", x.image(), 0);
        due.is("it can be danced again still", x.redo(), 1);
        due.is("the latest image is laid back", x.back(), 0);
        SquareCaller full = Witness.withCalls(200);
        due.is("of 200", full.image(), 200);
        due.is("home() has", full.home(), 200);
        due.is("200 come back", full.back(), 200);
        due.is("the 200th", full.call(199), 2);
        due.is("no room", Due.dance(full, "left"), SquareCaller.FULL);
        due.is("it is undone", full.undo(), 199);
        due.is("one has room", Due.dance(full, "right"), 1);
    }

    private void back() {
        due.is("of a new object", new SquareCaller().back(), STATE);
        Witness.refused(due, "back() without an image", () -> {
            SquareCaller x = Due.after("left,right");
            x.undo();
            Due.feed(x, "heads lef");
            return x;
        }, SquareCaller::back, STATE);
        SquareCaller x = new SquareCaller();
        x.image();
        due.is("an image of none", x.back(), 0);
        Due.dance(x, "left,right");
        x.undo();
        due.is("back", x.back(), 0);
        due.is("nothing to be danced again", x.redo(), STATE);
        due.is("nothing to be undone", x.undo(), STATE);
        due.is("all are HOME", Due.picture(x), AT_HOME);
        SquareCaller y = Due.after("left,right");
        y.undo();
        y.image();
        due.is("back() at once", y.back(), 1);
        due.is("leaves nothing to be danced again", y.redo(), STATE);
        due.is("the image stays", y.back(), 1);
        due.is("what it brings can be undone", y.undo(), 0);
        due.is("and danced again", y.redo(), 1);
        due.is("and no more", y.redo(), STATE);
    }
}

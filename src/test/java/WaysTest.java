/** Promises 13 to 16: way, round, alike, squares. */
public final class WaysTest {
    private static final Due due = new Due();
    private static final int NOT = SquareCaller.NOT;
    private static final int BAD = SquareCaller.BAD;
    private static final int LONG = SquareCaller.LONG;

    public static void main(String[] args) {
        way();
        wayAtItsLimit();
        wayNot();
        round();
        alike();
        alikeTurned();
        squares();
        due.end("WaysTest");
    }

    private static void ways(String text, String codes) {
        due.is("13: way after " + text, Due.way(Due.after(text)), codes);
    }

    private static void way() {
        ways("", "");
        ways("left", "3");
        ways("right", "2");
        ways("around", "4");
        ways("heads forward", "101");
        ways("sides left", "203");
        ways("men around", "304");
        ways("heads forward,heads pass,heads back,around", "none -7");
        ways("slide", "8");
        ways("heads slide", "108");
        // trade comes ahead of the same by outers, and all ahead of heads and sides
        ways("trade", "9");
        ways("outers left", "3");
        ways("heads left,sides left", "3");
        // of two calls: those of the first square in the order of the words
        ways("men left,ladies right", "2 304");
        ways("left,right", "");
    }

    private static void wayAtItsLimit() {
        // HOME would be number 250, 251 and 252 of the squares come to
        ways("outers around,men left,all back", "0 2 402");
        ways("sides forward,centers slide", "201 208");
        ways("heads slide,men around,ladies right", "none " + LONG);
    }

    private static void wayNot() {
        SquareCaller x = Due.after("left");
        due.is("13: way(1) of one", x.way(1), NOT);
        due.is("13: way(MAX)", x.way(Integer.MAX_VALUE), NOT);
        due.is("13: way(-2)", x.way(-2), BAD);
        due.is("13: way(MIN)", x.way(Integer.MIN_VALUE), BAD);
        due.is("13: nothing is danced by it", x.call(-1), 1);
        due.is("13: the next square", Due.dance(x, "heads right") + 10 * x.way(0), 1 + 10 * 203);
        due.is("13: undone", x.undo() + 10 * x.way(0), 1 + 10 * 3);
        due.is("13: home", x.home() + 10 * x.way(-1), 1);
        due.is("13: way(0) at home", x.way(0), NOT);
        SquareCaller y = Due.after("heads slide,men around,ladies right");
        for (int i : new int[] {-1, 0, 1, 250, Integer.MAX_VALUE}) {
            due.is("13: LONG for way(" + i + ")", y.way(i), LONG);
        }
        due.is("13: BAD ahead of LONG", y.way(-2), BAD);
    }

    private static void round() {
        SquareCaller x = new SquareCaller();
        due.is("14: ring", Due.round(x, "ring"), 8);
        due.is("14: the tape is empty then", x.feed('l'), 1);
        due.is("14: left", Due.round(x, "eft"), 4);
        due.is("14: around", Due.round(x, "around"), 2);
        due.is("14: left 4", Due.round(x, "left 4"), 1);
        due.is("14: slide", Due.round(x, "slide"), 2);
        due.is("14: heads left,sides around", Due.round(x, "heads left,sides around"), 4);
        due.is("14: ring 3", Due.round(x, "ring 3"), 8);
        due.is("14: ring 4", Due.round(x, "ring 4"), 2);
        due.is("14: it is looked at after whole texts", Due.round(x, "ring 4,ring 2"), 4);
        due.is("14: three", Due.round(x, "heads around,belles right,heads left,ladies left"), 3);
        due.is("14: six", Due.round(x, "beaus left,heads left,men left,star"), 6);
        due.is("14: twenty", Due.round(x, "men forward,outers left,ladies back"), 20);
        due.is("14: it falls", Due.round(x, "forward"), NOT);
        due.is("14: the tape is empty after a fall", x.feed('h'), 1);
        due.is("14: it falls the second time", Due.round(x, "eads forward"), NOT);
        due.is("14: never, as the ring turns all", Due.round(x, "ring,men left"), NOT);
        due.is("14: an empty tape", Due.round(x, ""), -100);
        due.is("14: nothing is danced", x.call(-1) + x.danced(2) + x.danced(11) + x.fall(0), 0);
        due.is("14: nobody moved", x.count(1), 8);
        // as at first is as now, not HOME
        SquareCaller y = Due.after("men left");
        due.is("14: elsewhere", Due.round(y, "left"), 4);
        due.is("14: the ring never leads back", Due.round(y, "ring"), NOT);
        due.is("14: sixty", Due.round(Due.after("men forward"), "outers around,back,sides left,heads right"), 60);
        due.is("14: sixty-four", Due.round(Due.after("sides forward,centers around"),
                "outers left,slide,left,sides right,sides trade"), 64);
        due.is("14: never", Due.round(x, "belles around,men around"), NOT);
        SquareCaller full = Due.after("left 4,".repeat(13) + "left 4");
        Due.dance(full, "left 4,".repeat(13) + "left 4");
        Due.dance(full, "left 4,".repeat(13) + "left 4");
        due.is("14: 60 calls where 32 have room", Due.round(full, "left 4,".repeat(14) + "left 4"), 1);
    }

    private static void alike() {
        SquareCaller x = new SquareCaller();
        due.is("15: alike(-1) without an image", x.alike(-1), BAD);
        due.is("15: alike(2) without an image", x.alike(2), BAD);
        due.is("15: alike(0) without an image", x.alike(0), SquareCaller.STATE);
        due.is("15: alike(1) without an image", x.alike(1), SquareCaller.STATE);
        x.image();
        due.is("15: alike(0)", x.alike(0), 0);
        due.is("15: alike(1)", x.alike(1), 0);
        for (int sort : new int[] {-1, 2, 3, Integer.MIN_VALUE, Integer.MAX_VALUE}) {
            due.is("15: alike(" + sort + ")", x.alike(sort), BAD);
        }
        Due.dance(x, "left");
        due.is("15: alike(0) after left", x.alike(0), NOT);
        due.is("15: alike(1) after left", x.alike(1), NOT);
    }

    private static void alikeTurned() {
        // the ring's second step takes each couple to the place of the next: a quarter, not renamed
        SquareCaller x = Due.after("");
        x.image();
        for (int quarters = 1; quarters <= 3; quarters++) {
            Due.dance(x, "ring");
            due.is("15: between two quarters", x.alike(1), NOT);
            Due.dance(x, "ring");
            due.is("15: not renamed, quarters", x.alike(1), quarters);
            due.is("15: renamed", x.alike(0), NOT);
        }
        Due.dance(x, "ring 2");
        due.is("15: all the way round", x.alike(1), 0);
        // by an image that is not symmetric, the way from it to the square counts, not the way back
        SquareCaller y = Due.after("ring 2");
        y.image();
        y.home();
        due.is("15: back by three quarters", y.alike(1), 3);
        // renamed by a quarter heads are sides
        SquareCaller z = Due.after("heads left");
        z.image();
        due.is("15: heads left, then sides left", z.undo() + 10 * Due.dance(z, "sides left"), 10);
        due.is("15: renamed by one quarter", z.alike(0), 1);
        due.is("15: not renamed", z.alike(1), NOT);
        SquareCaller men = Due.after("men left");
        men.image();
        due.is("15: the fewest quarters", men.alike(0), 0);
    }

    private static void squares(String text, int unlike, int renamed, int notRenamed) {
        SquareCaller x = Due.after(text);
        due.is("16: squares(0) of " + text, x.squares(0), unlike);
        due.is("16: squares(1) of " + text, x.squares(1), renamed);
        due.is("16: squares(2) of " + text, x.squares(2), notRenamed);
    }

    private static void squares() {
        squares("", 1, 1, 1);
        squares("left 4", 4, 4, 4);
        squares("left 4,left 4", 4, 4, 4);
        squares("ring 4,ring 4", 8, 8, 2);
        squares("heads left,heads right,sides left", 3, 2, 3);
        squares("left,right,left,right", 2, 2, 2);
        SquareCaller x = Due.after("left 3");
        for (int sort : new int[] {-1, 3, Integer.MIN_VALUE, Integer.MAX_VALUE}) {
            due.is("16: squares(" + sort + ")", x.squares(sort), BAD);
        }
        x.undo();
        due.is("16: what was undone is not counted", x.squares(0), 3);
        x.redo();
        due.is("16: danced again it is", x.squares(0), 4);
        x.image();
        x.home();
        due.is("16: at home", x.squares(0), 1);
        x.back();
        due.is("16: the image's dance", x.squares(0), 4);
        SquareCaller most = new SquareCaller();
        for (int i = 0; i < 3; i++) {
            Due.dance(most, "left 4,".repeat(13) + "left 4");
        }
        Due.dance(most, "left 4,".repeat(7) + "left 4");
        due.is("16: a dance of 200", most.call(-1) + 1000 * most.squares(0), 200 + 1000 * 4);
    }
}

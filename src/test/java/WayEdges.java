import java.util.ArrayList;
import java.util.List;

/** The boundaries of THE WAY HOME, of ROUND, of what is ALIKE and of SQUARES: promises 13 to 16. */
final class WayEdges {
    private static final int BAD = SquareCaller.BAD;
    private static final int NOT = SquareCaller.NOT;
    private static final int STATE = SquareCaller.STATE;
    private static final int LONG = SquareCaller.LONG;
    private static final int[] FAR = {-100, Integer.MIN_VALUE};

    /** From this square HOME is farther than 250 squares. */
    private static final String FAR_AWAY = "heads slide,men around,ladies right";

    private final Due due;

    WayEdges(Due due) {
        this.due = due;
    }

    void all(Edges on) {
        on.sentence(0, "THE WAY HOME: the fewest calls by which all are HOME as they are FACING there;",
                this::fewest);
        on.sentence(0, "calls are told in order: WHO by all heads sides men ladies centers outers belles beaus, of "
                + "each FIGURES by forward back left right around pass star box slide trade fold ring;", this::inOrder);
        on.sentence(0, "SQUARES are come to square by square, in that order (those come to ahead, and the calls "
                + "that FALL, are passed over)", this::passedOver);
        on.sentence(0, "of like many the one found so.", this::foundFirst);
        on.sentence(0, "250 at most, with the first (LONG, if a 251st would come that is not HOME)",
                this::mostSquares);
        on.sentence(13, "how many calls (i -1; 0: all are), the i-th (100 times WHO's number, and the FIGURE's, "
                + "in their orders).", this::wayCalls);
        on.sentence(13, "BAD; LONG (for each i from -1); NOT: there is no way (for each i from -1), or there "
                + "are not as many.", this::noWay);
        on.sentence(0, "ROUND: a TEXT danced again and again in thought: after how many times (1 to 100) SQUARE "
                + "is for the first time as at first;", this::rounds);
        on.sentence(0, "NOT, if a call FALLS ahead of that, or it is not so by then.", this::noRound);
        on.sentence(14, "(nothing changes else). -100 less the FAULT; NOT.", this::roundChangesNothing);
        on.sentence(0, "A quarter: x, y becomes 3 - y, x, FACING f (f + 3) % 4; renamed: DANCER d is (d + 2) % "
                + "8 then.", this::oneQuarter);
        on.sentence(0, "ALIKE: one is the other one by 0 to 3 quarters, each renamed, or each not (two sorts).",
                this::noughtToThreeQuarters);
        on.sentence(15, "By how many quarters (the fewest, from 0) AN IMAGE's SQUARE becomes SQUARE, each "
                + "renamed (sort 0), not renamed (1); NOT: by none.", this::fewestQuarters);
        on.sentence(15, "BAD; STATE: there is no IMAGE.", this::noImage);
        on.sentence(16, "How many unlike SQUARES THE DANCE went through (with the first, HOME, and the latest; "
                + "sort 0)", this::unlikeSquares);
        on.sentence(16, "counting those once that are ALIKE renamed (1), not renamed (2). BAD.", this::alikeOnce);
    }

    private void way(String text, String codes) {
        due.is("the way after " + text, Due.way(Due.after(text)), codes);
    }

    private void fewest() {
        way("", "");
        way("left", "3");
        way("left 4", "");
        // on their cells, but not FACING so; FACING so, but not on their cells
        way("men around", "304");
        way("slide", "8");
        // three calls were danced, one leads home
        way("left 3", "2");
        way("heads left,sides left,right,left", "3");
        way("men left,ladies right", "2 304");
        way("sides forward,centers slide", "201 208");
        // the calls that are told are danced, and lead home
        SquareCaller x = Due.after("outers around,men left,all back");
        due.is("three calls", x.way(-1), 3);
        due.is("and home", Due.dance(x, "forward,left,ladies left"), 3);
        due.is("all are", x.way(-1), 0);
    }

    private void inOrder() {
        // the WHO and the FIGURES of short ways; heads come ahead of centers, ladies ahead of belles
        way("left,back", "0 3");
        way("left,forward", "1 3");
        way("right", "2");
        way("left", "3");
        way("around", "4");
        way("slide", "8");
        way("trade", "9");
        way("ring 4,ring 3", "11");
        way("heads left", "103");
        way("heads forward", "101");
        way("sides left", "203");
        way("men left", "303");
        way("ladies left", "403");
        way("belles left", "403");
        way("sides slide,beaus forward", "501 208");
    }

    private void passedOver() {
        // forward and back are danced and come to a square each, left leads home
        homeAt(4, "right", "2");
        homeAt(5, "left", "3");
        // forward and back FALL
        homeAt(4, "around", "4");
        // nine squares by all, four by heads, whose slide, trade and fold were come to ahead, three by sides
        homeAt(17, "sides left", "203");
        homeAt(1, "left 4", "");
    }

    private void foundFirst() {
        // all comes ahead of heads and outers, the less number of FIGURES ahead of the greater
        way("outers left", "3");
        way("trade", "9");
        way("heads forward", "101");
        // left twice, and around: one call, not two
        way("left 2", "4");
        // "all left, men around" comes ahead of "men left, ladies right" and all others of two calls
        way("men left,ladies right", "2 304");
    }

    /** The number that HOME has among the squares come to, the first one being 1; they are counted on behind 250. */
    private static int numberOfHome(String text) {
        List<List<Model.Pos>> squares = new ArrayList<>(List.of(danced(Model.HOME, text)));
        for (int from = 0; from < squares.size() && squares.size() < 400; from++) {
            for (String who : Model.WHO) {
                for (String figure : Model.FIGURES) {
                    Model.Outcome o = Model.outcome(squares.get(from), new Model.Call(who, figure));
                    if (!o.fell() && !squares.contains(o.square())) {
                        squares.add(o.square());
                    }
                }
            }
        }
        return 1 + squares.indexOf(Model.HOME);
    }

    private void homeAt(int number, String text, String codes) {
        due.is("HOME's number after " + text, numberOfHome(text), number);
        way(text, codes);
        SquareCaller x = Due.after(text);
        int calls = x.way(-1);
        for (int i = 0; i < calls; i++) {
            int code = Due.after(text).way(i);
            Due.dance(x, Model.WHO.get(code / 100) + " " + Model.FIGURES.get(code % 100));
        }
        due.is("home by the way after " + text, x.count(1) == 8 ? 1 : 0, codes.startsWith("none") ? 0 : 1);
    }

    private void mostSquares() {
        homeAt(248, "around,sides trade,men left", "2 402 209");
        homeAt(249, "sides slide,beaus forward", "501 208");
        homeAt(250, "right,ladies right,back", "0 2 402");
        homeAt(251, "sides forward,sides slide", "201 208");
        homeAt(252, "around,heads slide,ladies left", "none " + LONG);
        homeAt(253, "left,heads back,left", "none " + LONG);
    }

    private void wayCalls() {
        SquareCaller none = new SquareCaller();
        due.is("way(-2) at home", none.way(-2), BAD);
        due.is("way(-1) at home", none.way(-1), 0);
        due.is("way(0) at home", none.way(0), NOT);
        SquareCaller two = Due.after("men left,ladies right");
        due.is("way(-2) of two", two.way(-2), BAD);
        due.is("way(-1) of two", two.way(-1), 2);
        due.is("way(0) of two", two.way(0), 2);
        due.is("way(1) of two", two.way(1), 304);
        due.is("way(2) of two", two.way(2), NOT);
        due.is("way(MAX) of two", two.way(Integer.MAX_VALUE), NOT);
        // it is the way of the square as it is now
        two.undo();
        due.is("one call undone", two.way(-1) + 1000 * two.way(0), 1 + 1000 * 303);
        two.redo();
        due.is("and danced again", two.way(-1), 2);
        two.home();
        due.is("at home", two.way(-1), 0);
    }

    private void noWay() {
        SquareCaller far = Due.after(FAR_AWAY);
        for (int i : new int[] {-1, 0, 1, 249, 250, 251, Integer.MAX_VALUE}) {
            due.is("LONG for way(" + i + ")", far.way(i), LONG);
        }
        due.is("BAD for way(-2)", far.way(-2), BAD);
        for (int i : FAR) {
            due.is("BAD for way(" + i + ")", far.way(i), BAD);
        }
        Witness.refused(due, "way(-1), LONG", () -> Due.after(FAR_AWAY), x -> x.way(-1), LONG);
        Witness.refused(due, "way(1), NOT", () -> Due.after("left"), x -> x.way(1), NOT);
        Witness.refused(due, "way(-2), BAD", () -> Due.after("left"), x -> x.way(-2), BAD);
        // no square is known from which there is no way: each has more than 250 others to come to
    }

    private void round(String before, String text, int answer) {
        due.is(before + "; round() of " + text, Due.round(Due.after(before), text), answer);
    }

    /** After how many times, without any bound, the square is as at first. */
    private static int timesTillAsAtFirst(String before, String text) {
        List<Model.Pos> first = danced(Model.HOME, before);
        List<Model.Pos> square = danced(first, text);
        int times = 1;
        while (!square.equals(first) && times < 1000) {
            square = danced(square, text);
            times++;
        }
        return times;
    }

    private static List<Model.Pos> danced(List<Model.Pos> square, String text) {
        List<Model.Pos> now = square;
        for (Model.Call call : Model.calls(text)) {
            now = Model.outcome(now, call).square();
        }
        return now;
    }

    private void rounds() {
        round("", "left 4", 1);
        round("", "left,right", 1);
        round("", "around", 2);
        round("", "left", 4);
        round("", "ring", 8);
        // whole texts are counted: the square is as at first within them, too
        round("", "left 4,left", 4);
        round("", "ring 4,ring 2", 4);
        // as at first, which is not HOME
        round("men left", "left", 4);
        manyRounds("sides right,beaus forward,sides right,heads right,sides slide,ladies back,men around", 1,
                "beaus right,left 3,heads around,centers left,slide,beaus right,left 3,heads around,centers left,slide",
                99);
        manyRounds("sides left,sides back,outers slide,belles fold,belles left", 0,
                "heads right,ladies around,centers around,outers left,belles left", 100);
        // no text that needs 101 times is known
        manyRounds("right,heads back,right,sides around,outers trade,belles right,men left", 4,
                "star,outers trade,beaus left,ladies right,outers right,sides left,outers around", 102);
        manyRounds("sides left,sides back,slide,beaus left,men left,sides around", 0,
                "belles left,heads around,ladies right", 108);
    }

    /** A text that needs so many times on the square to which another one leads, and the text itself, some times. */
    private void manyRounds(String before, int more, String text, int times) {
        String all = before + ("," + text).repeat(more);
        due.is("times till as at first", timesTillAsAtFirst(all, text), times);
        SquareCaller x = Due.after(before);
        for (int i = 0; i < more; i++) {
            Due.dance(x, text);
        }
        due.is("all were danced", x.call(-1), Model.calls(all).size());
        due.is("round() of " + text, Due.round(x, text), times <= 100 ? times : NOT);
    }

    private void noRound() {
        // it falls the first time, the second time, and not at all
        round("", "pass", NOT);
        round("", "left,pass", NOT);
        round("", "heads forward", NOT);
        round("", "heads forward,heads back", 1);
        // the second time they go off THE FLOOR
        round("left", "forward", NOT);
        round("", "heads forward,heads pass,heads back,heads around", NOT);
        // never as at first, and no call falls
        round("", "belles around,men around", NOT);
        round("men left", "ring", NOT);
    }

    private void roundChangesNothing() {
        Witness.empties(due, "round() of left", Witness::busy, "left", SquareCaller::round, 4);
        Witness.empties(due, "round() that falls", Witness::busy, "ring", SquareCaller::round, NOT);
        Witness.empties(due, "round() that falls later", Witness::busy, "left,ring", SquareCaller::round, NOT);
        Witness.empties(due, "round() of no text", Witness::busy, "left,", SquareCaller::round, -105);
        Witness.empties(due, "round() where THE DANCE is full", () -> Witness.withCalls(200), "left 4,left 4",
                SquareCaller::round, 1);
    }

    /** The answer of alike() for an image and a square, each told by a text from HOME. */
    private void alike(int sort, String image, String square, int answer) {
        SquareCaller x = Due.after(image);
        x.image();
        x.home();
        if (!square.isEmpty()) {
            Due.dance(x, square);
        }
        due.is("alike(" + sort + ") from " + image + " to " + square, x.alike(sort), answer);
    }

    private void oneQuarter() {
        // the ring's second step takes each couple to the cells of the next one: (1, 0) becomes (3, 1), 0 becomes 3
        alike(1, "", "ring 2", 1);
        alike(0, "", "ring 2", NOT);
        // renamed, a quarter makes heads of sides, and HOME stays HOME
        alike(0, "heads left", "sides left", 1);
        alike(1, "heads left", "sides left", NOT);
        alike(0, "", "", 0);
        // (d + 2) % 8: 6 and 7 become 0 and 1
        alike(0, "heads forward", "sides forward", 1);
    }

    private void noughtToThreeQuarters() {
        alike(1, "", "", 0);
        alike(1, "", "ring 2", 1);
        alike(1, "", "ring 4", 2);
        alike(1, "", "ring 4,ring 2", 3);
        alike(1, "", "ring 4,ring 4", 0);
        alike(1, "ring 2", "", 3);
        alike(1, "slide,fold,men left", "ring,men forward", 1);
        alike(1, "sides forward,pass,forward", "heads forward,pass,trade", 2);
        alike(0, "heads left", "heads left", 0);
        alike(0, "heads right,sides forward,trade,trade", "heads forward,heads trade,sides right,trade", 1);
        alike(0, "heads forward,sides left,slide,beaus slide", "heads forward,heads slide,sides left,slide", 2);
        alike(0, "men forward,sides right,ladies around,slide", "men forward,heads right,ladies around,slide", 3);
        // by none
        alike(0, "", "left", NOT);
        alike(1, "", "left", NOT);
        alike(1, "", "ring", NOT);
        alike(0, "", "men left", NOT);
    }

    private void fewestQuarters() {
        // HOME renamed is the same by 0, 1, 2 and 3 quarters
        alike(0, "", "", 0);
        alike(0, "men left", "men left", 0);
        // by 1 and by 3
        alike(0, "heads left", "sides left", 1);
        alike(0, "sides left", "heads left", 1);
        SquareCaller x = Due.after("heads left");
        x.image();
        due.is("the image is the square", x.alike(0) + 10 * x.alike(1), 0);
        x.undo();
        due.is("undone, it is not", x.alike(0), NOT);
        x.redo();
        due.is("danced again, it is", x.alike(0), 0);
        Witness.refused(due, "alike(0), NOT", Witness::busyWithTape, o -> o.alike(0), NOT);
        Witness.refused(due, "alike(1), NOT", Witness::busyWithTape, o -> o.alike(1), NOT);
    }

    private void noImage() {
        SquareCaller x = new SquareCaller();
        int[] none = {-1, 2, 3, Integer.MIN_VALUE, Integer.MAX_VALUE};
        for (int sort : none) {
            due.is("alike(" + sort + ") without an image", x.alike(sort), BAD);
        }
        due.is("alike(0) without an image", x.alike(0), STATE);
        due.is("alike(1) without an image", x.alike(1), STATE);
        x.back();
        due.is("nor by back()", x.alike(0), STATE);
        x.image();
        for (int sort : none) {
            due.is("alike(" + sort + ") with an image", x.alike(sort), BAD);
        }
        due.is("alike(0) with an image", x.alike(0), 0);
        due.is("alike(1) with an image", x.alike(1), 0);
        x.home();
        due.is("home() keeps the image", x.alike(0), 0);
        Witness.refused(due, "alike(0), STATE", () -> Due.after("left"), o -> o.alike(0), STATE);
        Witness.refused(due, "alike(2), BAD", Witness::busyWithTape, o -> o.alike(2), BAD);
    }

    private void squares(String text, int unlike, int renamed, int notRenamed) {
        SquareCaller x = Due.after(text);
        due.is("squares(0) of " + text, x.squares(0), unlike);
        due.is("squares(1) of " + text, x.squares(1), renamed);
        due.is("squares(2) of " + text, x.squares(2), notRenamed);
    }

    private void unlikeSquares() {
        squares("", 1, 1, 1);
        squares("left", 2, 2, 2);
        squares("left,right", 2, 2, 2);
        // the fourth is HOME again
        squares("left 3", 4, 4, 4);
        squares("left 4", 4, 4, 4);
        SquareCaller x = Due.after("left,men left");
        due.is("with the latest", x.squares(0), 3);
        x.undo();
        due.is("without what was undone", x.squares(0), 2);
        x.home();
        due.is("since home()", x.squares(0), 1);
        due.is("200 calls, four squares", Witness.withCalls(200).squares(0), 4);
        mostSquaresOfADance();
    }

    /** As many as can be: 200 calls, no square of which comes twice, and HOME. */
    private void mostSquaresOfADance() {
        SquareCaller x = new SquareCaller();
        Due.dance(x, "left 3,ring 3,left 3,ring 4,left 3,back,left 3,back 3,left 3,back,ring 4,left 3,ring 4");
        Due.dance(x, "men left 3,left 3,back 2,left 3,back 2,left 3,ring 4,left 3,ring 4,left 3,back,left 3,back 3");
        Due.dance(x, "left 3,back,ring 4,left 3,ring 4,sides left 2,left 3,box,ring 4,left 3,ring 4,trade,left 3");
        Due.dance(x, "ring 3,left 3,ring 4,trade,ring 4,left 3,ring 4,men left 3,left 3,trade,left 3,ring 4,left 3");
        Due.dance(x, "ring 4,trade,ring 3,ring 4,trade,ring 4,left 3,ring 4,men left 2,left 3,box,ring 4,ring 4,trade");
        Due.dance(x, "ring 4,left 3,ring 4");
        due.is("200 calls", x.call(-1), 200);
        due.is("201 unlike squares", x.squares(0), 201);
        x.undo();
        due.is("200 of them", x.squares(0), 200);
        x.redo();
        due.is("not more, if they are counted once", x.squares(1) <= 201 && x.squares(2) <= 201 ? 1 : 0, 1);
    }

    private void alikeOnce() {
        // by quarters that are not renamed: HOME, and the ring's first step
        squares("ring 4,ring 3", 8, 8, 2);
        squares("ring 4,ring 4", 8, 8, 2);
        // by quarters that are renamed: heads left and sides left
        squares("heads left,heads right,sides left", 3, 2, 3);
        squares("heads forward,heads back,sides forward", 3, 2, 3);
        SquareCaller x = Due.after("heads left,heads right,sides left");
        for (int sort : new int[] {-1, 3, 4, Integer.MIN_VALUE, Integer.MAX_VALUE}) {
            due.is("squares(" + sort + ")", x.squares(sort), BAD);
        }
        Witness.refused(due, "squares(-1)", Witness::busyWithTape, o -> o.squares(-1), BAD);
        Witness.refused(due, "squares(3)", Witness::busyWithTape, o -> o.squares(3), BAD);
    }
}

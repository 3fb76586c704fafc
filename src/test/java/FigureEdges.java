/** The boundaries of THE FLOOR, of WHO is meant, of FIGURES, pairs and FALLS. */
final class FigureEdges {
    private static final String AT_HOME = "..6v5v..|7>....4<|8>....3<|..1^2^..|";

    private final Due due;

    FigureEdges(Due due) {
        this.due = due;
    }

    void all(Edges on) {
        on.sentence(0, "3; a cell's number is 4 y + x.", this::corners);
        on.sentence(0, "FACING: 0 to greater y, 1 to greater x, 2 to less y, 3 to less x;", this::facings);
        on.sentence(0, "left, right, around: turns where it stands.", this::turns);
        on.sentence(0, "RIGHT of 0 is 1, of 1 2, of 2 3, of 3 0.", this::turnsGoRound);
        on.sentence(0, "centers (who stand on x and y 1 or 2 as the call begins), outers (the others)",
                this::centers);
        on.sentence(0, "belles (who have, on the cell at their left, a dancer FACING as they do, as the call "
                + "begins), beaus (on the cell at their right).", this::bellesAndBeaus);
        on.sentence(0, "forward: each goes one cell the way it is FACING; back: one the other way;", this::oneCell);
        on.sentence(0, "pass: two FACING one another on neighbouring cells change cells.", this::pass);
        on.sentence(0, "star: likewise a man and a lady; then he turns right, she left.", this::star);
        on.sentence(0, "box: likewise two; then both turn right.", this::box);
        on.sentence(0, "slide: two side by side, FACING the same way, change cells;", this::slide);
        on.sentence(0, "trade: likewise, and turn around;", this::trade);
        on.sentence(0, "fold: likewise: the right one goes to the cell ahead of the left one and turns around, "
                + "the left one stays (it does not change; that cell must be free, or left by this call).",
                this::fold);
        on.sentence(0, "ring: all eight stand on HOME's eight cells (whoever): each goes on to the next of them "
                + "in the order 0 1 2 3 4 5 6 7 of HOME, and FACES as HOME is there.", this::ring);
        on.sentence(0, "Pairs are found by DANCERS from 0 on, of those who are meant and in none yet: with the "
                + "one ahead;", this::pairsFromNought);
        on.sentence(0, "of slide, trade, fold with the one at its RIGHT, if that may be, else with the one at "
                + "its left.", this::rightElseLeft);
        on.sentence(0, "Who has no pair stays.", this::staysWithoutPair);
        on.sentence(0, "FALLS (the call can't be danced; nobody moves), by DANCERS from 0 on, each with the "
                + "first that is so:", this::firstThatIsSo);
        on.sentence(0, "1 it would go off THE FLOOR;", this::offTheFloor);
        on.sentence(0, "2 onto a cell where somebody stands who does not go, or who goes to its own;",
                this::ontoSomebody);
        on.sentence(0, "3 onto a cell to which another one goes, too.", this::ontoTheSameCell);
        on.sentence(0, "4 (of DANCER -1): no pair does it, though one is asked for; nobody is meant;", this::noPair);
        on.sentence(0, "5 (of -1): ring, and some stand elsewhere, or not all are meant.", this::noRing);
    }

    /** The text is danced whole from HOME, and leads to the picture. */
    private void leads(String text, String picture) {
        SquareCaller x = new SquareCaller();
        int calls = Due.dance(x, text);
        due.is(text + ": falls", Due.falls(x), "/0");
        due.is(text + ": calls", calls, x.call(-1));
        due.is(text, Due.picture(x), picture);
    }

    /** On the square that the text leads to, the call falls so, and nobody moves. */
    private void falls(String text, String call, String falls) {
        SquareCaller x = Due.after(text);
        String before = Due.picture(x);
        int calls = x.call(-1);
        due.is(text + "; " + call + ": would()", Due.would(x, call), SquareCaller.NOT);
        due.is(text + "; " + call + ": calls danced", Due.dance(x, call), 0);
        due.is(text + "; " + call + ": falls", Due.falls(x), falls);
        due.is(text + "; " + call + ": nobody moves", Due.picture(x), before);
        due.is(text + "; " + call + ": THE DANCE", x.call(-1), calls);
    }

    /** On the square that the text leads to, so many pairs (or dancers) do the call, which leads to the picture. */
    private void does(String text, String call, int doers, String picture) {
        due.is(text + "; " + call + ": would()", Due.would(Due.after(text), call), doers);
        leads(text.isEmpty() ? call : text + "," + call, picture);
    }

    private void corners() {
        // 7^..6>5>|8^......|......4v|1<2<..3v|
        SquareCaller x = Due.after("left,forward");
        due.is("(0, 0)", x.on(0), 0);
        due.is("(3, 0)", x.on(3), 2);
        due.is("(0, 3)", x.on(12), 6);
        due.is("(3, 3)", x.on(15), 4);
        due.is("0 stands", x.at(0, 0), 0);
        due.is("2 stands", x.at(2, 0), 3);
        due.is("6 stands", x.at(6, 0), 12);
        due.is("4 stands", x.at(4, 0), 15);
        due.is("x counts ones", x.at(1, 0), 1);
        due.is("y counts fours", x.at(7, 0), 8);
        due.is("below the first cell", x.on(-1), SquareCaller.BAD);
        due.is("above the last cell", x.on(16), SquareCaller.BAD);
    }

    private void facings() {
        SquareCaller heads = Due.after("heads forward");
        SquareCaller sides = Due.after("sides forward");
        due.is("0, FACING 0, from 1", heads.at(0, 0), 1 + 4);
        due.is("6, FACING 1, from 8", sides.at(6, 0), 8 + 1);
        due.is("4, FACING 2, from 14", heads.at(4, 0), 14 - 4);
        due.is("2, FACING 3, from 7", sides.at(2, 0), 7 - 1);
    }

    private void turns() {
        leads("left", "..6>5>..|7^....4v|8^....3v|..1<2<..|");
        leads("right", "..6<5<..|7v....4^|8v....3^|..1>2>..|");
        leads("around", "..6^5^..|7<....4>|8<....3>|..1v2v..|");
        // only those who are meant
        leads("heads left", "..6>5>..|7>....4<|8>....3<|..1<2<..|");
        leads("ladies right", "..6<5v..|7>....4^|8v....3<|..1^2>..|");
        leads("men around", "..6v5^..|7<....4<|8>....3>|..1v2^..|");
    }

    private void turnsGoRound() {
        int[] rights = {1, 2, 3, 0, 1};
        int[] lefts = {3, 2, 1, 0, 3};
        SquareCaller right = new SquareCaller();
        SquareCaller left = new SquareCaller();
        for (int i = 0; i < 5; i++) {
            Due.dance(right, "right");
            Due.dance(left, "left");
            due.is("0 after " + (i + 1) + " times right", right.at(0, 1), rights[i]);
            due.is("0 after " + (i + 1) + " times left", left.at(0, 1), lefts[i]);
            // 2 faces 3 at first
            due.is("2 after " + (i + 1) + " times right", right.at(2, 1), (rights[i] + 3) % 4);
            due.is("2 after " + (i + 1) + " times left", left.at(2, 1), (lefts[i] + 3) % 4);
        }
        SquareCaller around = Due.after("around");
        for (int d = 0; d < 8; d++) {
            due.is(d + " turned around", around.at(d, 1), (new SquareCaller().at(d, 1) + 2) % 4);
            due.is(d + " stays where it stands", around.at(d, 0), new SquareCaller().at(d, 0));
        }
        leads("left,right", AT_HOME);
        leads("around 2", AT_HOME);
        leads("left 2,around", AT_HOME);
    }

    private void centers() {
        // these squares have somebody on each of the sixteen cells
        boolean[] seen = new boolean[16];
        for (String text : new String[] {"", "heads forward", "sides forward", "left,forward", "right,forward"}) {
            SquareCaller x = Due.after(text);
            for (int d = 0; d < 8; d++) {
                int cell = x.at(d, 0);
                boolean inner = cell == 5 || cell == 6 || cell == 9 || cell == 10;
                seen[cell] = true;
                due.is(text + ": cell " + cell + " among centers", x.meant(5) >> d & 1, inner ? 1 : 0);
                due.is(text + ": cell " + cell + " among outers", x.meant(6) >> d & 1, inner ? 0 : 1);
            }
        }
        for (int cell = 0; cell < 16; cell++) {
            due.is("cell " + cell + " was looked at", seen[cell] ? 1 : 0, 1);
        }
        // as the call begins: the heads stay meant while they leave the centers, and are not the second time
        leads("heads forward,centers back", AT_HOME);
        falls("heads forward,centers back", "centers back", "/4");
        due.is("centers back 2", Due.dance(Due.after("heads forward"), "centers back 2"), 1);
    }

    private void lines(String text, int belles, int beaus) {
        due.is(text + ": belles", Due.after(text).meant(7), belles);
        due.is(text + ": beaus", Due.after(text).meant(8), beaus);
    }

    private void bellesAndBeaus() {
        int men = 85;
        int ladies = 170;
        lines("", ladies, men);
        lines("slide", men, ladies);
        // beside, FACING otherwise: at a right angle, and opposite
        lines("men left", 0, 0);
        lines("men right", 0, 0);
        lines("men around", 0, 0);
        // one ahead of the other; two cells apart
        lines("left", 0, 0);
        lines("heads left,men forward,heads right", 0, 0);
        // 1 at the right edge faces as 6 does at the left edge, one row up: no neighbours
        lines("left,back,ladies right", 0, 0);
        // 7^6v5v4v|8^1^2^3v: who stands between two is both
        lines("heads forward,sides left", 1 | 2 | 16 | 32, 128 | 1 | 8 | 16);
        // as the call begins: after the first time they no longer face the same way
        due.is("belles around 2", Due.dance(new SquareCaller(), "belles around 2"), 1);
        leads("belles around", "..6^5v..|7>....4>|8<....3<|..1^2v..|");
    }

    private void oneCell() {
        leads("heads forward", "........|7>6v5v4<|8>1^2^3<|........|");
        leads("sides forward", "..6v5v..|..7>4<..|..8>3<..|..1^2^..|");
        leads("heads forward,heads back", AT_HOME);
        leads("sides forward,sides back", AT_HOME);
        leads("around,heads back", "........|7<6^5^4>|8<1v2v3>|........|");
        leads("around,sides back", "..6^5^..|..7<4>..|..8<3>..|..1v2v..|");
        // the cells at the edge of THE FLOOR, and one step more
        leads("left,forward", "7^..6>5>|8^......|......4v|1<2<..3v|");
        falls("left,forward", "men forward", "1 21 41 61/0");
        leads("left,back", "6>5>..4v|......3v|7^......|8^..1<2<|");
        falls("left,back", "ladies back", "11 31 51 71/0");
    }

    private void pass() {
        does("heads forward", "pass", 2, "........|7>1^2^4<|8>6v5v3<|........|");
        // two cells apart, three cells apart
        falls("heads left,beaus forward", "pass", "/4");
        falls("", "pass", "/4");
        // back to back; 2 and 6 look to one another over the edge
        falls("heads forward,around", "pass", "/4");
        // each has somebody ahead who looks elsewhere
        falls("heads forward,ladies left", "pass", "/4");
        // only one of the two is meant
        falls("heads forward", "men pass", "/4");
        falls("heads forward", "sides pass", "/4");
    }

    private void star() {
        does("heads forward", "star", 2, "........|7>1>2<4<|8>6>5<3<|........|");
        // two men meet; two ladies meet
        String men = "sides forward,sides slide,sides right";
        does(men, "pass", 2, "..6v3^..|..8v5v..|..1^4^..|..7v2^..|");
        falls(men, "star", "/4");
        String ladies = "heads fold,centers right";
        does(ladies, "pass", 2, "....5v..|7>..4<6>|2<8>..3<|..1^....|");
        falls(ladies, "star", "/4");
        falls("heads left,beaus forward", "star", "/4");
    }

    private void box() {
        does("heads forward", "box", 2, "........|7>1>2>4<|8>6<5<3<|........|");
        does("sides forward,sides slide,sides right", "box", 2, "..6v3>..|..8v5<..|..1>4^..|..7<2^..|");
        does("heads fold,centers right", "box", 2, "....5v..|7>..4^6v|2^8v..3<|..1^....|");
        falls("heads left,beaus forward", "box", "/4");
        falls("heads forward,around", "box", "/4");
    }

    /** Where two stand side by side in no such way. */
    private void noTwoSideBySide(String figure) {
        falls("men around", figure, "/4");
        falls("men left", figure, "/4");
        falls("men right", figure, "/4");
        falls("left", figure, "/4");
        falls("heads left,men forward,heads right", figure, "/4");
        falls("left,back,ladies right", figure, "/4");
        falls("", "men " + figure, "/4");
        falls("", "centers " + figure, "/4");
    }

    private void slide() {
        does("", "slide", 4, "..5v6v..|8>....3<|7>....4<|..2^1^..|");
        noTwoSideBySide("slide");
    }

    private void trade() {
        does("", "trade", 4, "..5^6^..|8<....3>|7<....4>|..2v1v..|");
        noTwoSideBySide("trade");
    }

    private void fold() {
        does("", "heads fold", 2, "....5v..|7>..6^4<|8>2v..3<|..1^....|");
        noTwoSideBySide("fold");
        // the cell ahead is left by this call: 7 goes from it while 1 comes
        does("left,heads forward,right", "fold", 4, "......5v|7>8<..6^|2v..4>3<|1^......|");
        // it is taken: by one who is not meant, by one who stays as the left one of its own pair
        falls("heads forward", "sides fold", "32 72/0");
        falls("fold,star", "fold", "12 32 52 72/0");
        // it is left by the one who comes to the cell that is left for it
        falls("heads forward", "fold", "12 33 52 73/0");
        // it is the last one of THE FLOOR; it is off THE FLOOR
        does("heads forward,sides left,trade", "centers fold", 1, "........|7^6v4^5^|8^..1v3v|....2^..|");
        falls("around", "fold", "1 21 41 61/0");
        falls("around", "heads fold", "1 41/0");
    }

    private void ring() {
        String once = "..5v4v..|6>....3<|7>....2<|..8^1^..|";
        does("", "ring", 8, once);
        does("left", "ring", 8, once);
        does("men around", "ring", 8, once);
        // whoever: ladies and men have changed cells
        does("slide", "ring", 8, "..6v3v..|5>....4<|8>....1<|..7^2^..|");
        does("ring 4,ring 3", "ring", 8, AT_HOME);
        // seven of the cells are taken, and four
        falls("heads forward,sides left,trade,centers forward", "ring", "/5");
        falls("heads forward", "ring", "/5");
    }

    private void pairsFromNought() {
        // 7v1v2v4v|8^6^5^3^: 0 has taken 6, so 1 takes 3, though 0 at its right comes first
        does("heads forward,star,left,men around", "slide", 4, "........|1v7v4v2v|6^8^3^5^|........|");
        // 7^1^2^4^|8v6v5v3v: 0 has taken 1, so 3 and 6 at the ends of the row have nobody
        does("heads forward,star,left,ladies around", "slide", 3, "........|7^2^1^4^|6v8v3v5v|........|");
        does("heads forward", "heads pass", 2, "........|7>1^2^4<|8>6v5v3<|........|");
        falls("heads forward", "ladies pass", "/4");
    }

    private void rightElseLeft() {
        // 7^6v5v4v|8^1^2^3v: 0 has 7 at its left and 1 at its right
        String row = "heads forward,sides left";
        does(row, "slide", 2, "........|7^6v4v5v|8^2^1^3v|........|");
        does(row, "trade", 2, "........|7^6v4^5^|8^2v1v3v|........|");
        // 1 is not among the beaus: then it is 7
        does(row, "beaus slide", 2, "........|7^6v4v5v|1^8^2^3v|........|");
        // at the right of 0 stands nobody
        does("slide", "slide", 4, AT_HOME);
        does("slide", "heads fold", 2, "....6v..|8>..5^3<|7>1v..4<|..2^....|");
        // at the right of 0 stands one that is FACING otherwise
        does("around,heads back", "slide", 4, "........|8<5^6^3>|7<2v1v4>|........|");
    }

    private void staysWithoutPair() {
        // 7^6v5v4v|8^1^2^3v: 0 takes 1, 3 takes 4; 5 and 7 come too late, 2 and 6 have nobody beside them
        String row = "heads forward,sides left";
        for (String figure : new String[] {"slide", "trade"}) {
            SquareCaller x = Due.after(row);
            Due.dance(x, figure);
            for (int d : new int[] {2, 5, 6, 7}) {
                due.is(figure + ": " + d + " stays", x.at(d, 0), Due.after(row).at(d, 0));
                due.is(figure + ": " + d + " does not turn", x.at(d, 1), Due.after(row).at(d, 1));
            }
        }
        does("", "sides slide", 2, "..6v5v..|8>....3<|7>....4<|..1^2^..|");
        does("heads forward", "pass", 2, "........|7>1^2^4<|8>6v5v3<|........|");
    }

    private void firstThatIsSo() {
        falls("", "back", "1 11 21 31 41 51 61 71/0");
        falls("", "ladies back", "11 31 51 71/0");
        // two go onto a cell where a third one stays: 2, not 3
        falls("heads forward", "ladies forward", "12 32 52 72/0");
        falls("heads forward", "men forward", "2 22 42 62/0");
        // 7 goes to a cell whose dancer goes to its own, and 1 goes there, too: 7 has 2, 1 has 3
        falls("sides forward", "forward", "3 13 22 32 43 53 62 72/0");
        // who has no fall of its own is not told of, and does not move either
        falls("left,forward", "forward", "1 21 41 61/0");
    }

    private void offTheFloor() {
        falls("", "men back", "1 21 41 61/0");
        falls("", "ladies back", "11 31 51 71/0");
        leads("heads forward,heads back", AT_HOME);
        falls("heads forward,heads back", "heads back", "1 11 41 51/0");
        leads("around,heads back,heads forward", "..6^5^..|7<....4>|8<....3>|..1v2v..|");
        falls("around", "forward", "1 11 21 31 41 51 61 71/0");
        falls("around", "fold", "1 21 41 61/0");
        // at the end of a row there is no next row's first cell: 2 stands on 7, and 8 is taken
        falls("heads forward,around", "sides forward", "21 31 61 71/0");
    }

    private void ontoSomebody() {
        leads("sides forward", "..6v5v..|..7>4<..|..8>3<..|..1^2^..|");
        falls("heads forward", "sides forward", "22 32 62 72/0");
        // somebody who goes away is in nobody's way
        leads("left,forward", "7^..6>5>|8^......|......4v|1<2<..3v|");
        falls("left", "ladies forward", "12 32 52 72/0");
        // two who would change cells; four who go round
        falls("heads forward", "heads forward", "2 12 42 52/0");
        does("heads forward,ladies left", "heads forward", 4, "........|7>1^6>4v|8^2<5v3<|........|");
        falls("heads forward", "fold", "12 33 52 73/0");
        // pairs that change cells do not fall by that
        does("heads forward", "heads pass", 2, "........|7>1^2^4<|8>6v5v3<|........|");
    }

    private void ontoTheSameCell() {
        leads("men forward", "..6v....|..7>5v4<|8>1^3<..|....2^..|");
        falls("", "forward", "3 13 23 33 43 53 63 73/0");
        // three of them
        falls("heads fold,centers back", "forward", "3 13 33 43 53 73/0");
        // four men go round; with the ladies each goes to a cell to which one more goes
        does("men forward", "men forward", 4, "..6v....|..1^7>4<|8>3<5v..|....2^..|");
        falls("men forward", "forward", "3 13 23 33 43 53 63 73/0");
        falls("sides fold,star", "fold", "13 33 53 73/0");
    }

    private void noPair() {
        // one pair is enough
        String one = "heads forward,sides left,slide";
        does(one, "heads pass", 1, "........|7^2^4v5v|8^6v1^3v|........|");
        falls(one, "men pass", "/4");
        for (String figure : new String[] {"pass", "star", "box", "men slide", "ladies trade", "men fold"}) {
            falls("", figure, "/4");
        }
        // one who is meant is enough
        does("heads forward,sides left,slide,heads back", "centers left", 1, "..6v..5v|7^..4>..|8^....3v|..2^1^..|");
        for (String figure : Model.FIGURES) {
            falls("", "centers " + figure, "/4");
        }
        falls("men around", "belles left", "/4");
        falls("men around", "beaus left", "/4");
    }

    private void noRing() {
        String once = "..5v4v..|6>....3<|7>....2<|..8^1^..|";
        does("", "all ring", 8, once);
        // all eight are outers, and so all are meant
        does("", "outers ring", 8, once);
        for (String who : new String[] {"heads", "sides", "men", "ladies", "belles", "beaus"}) {
            falls("", who + " ring", "/5");
        }
        falls("heads forward,sides left,trade,centers forward", "ring", "/5");
        falls("heads forward,sides left,trade,centers forward", "outers ring", "/5");
        falls("heads forward", "centers ring", "/5");
        // seven of the cells are taken, and the first one is free
        SquareCaller x = Due.after("men forward,centers forward,ladies around,sides left,trade,centers slide");
        Due.dance(x, "belles around,heads left,outers right,sides around,centers forward");
        due.is("the first cell", x.on(1), SquareCaller.NOT);
        for (int cell : new int[] {2, 7, 11, 14, 13, 8, 4}) {
            due.is("somebody on cell " + cell, x.on(cell) >= 0 ? 1 : 0, 1);
        }
        due.is("ring", Due.dance(x, "ring"), 0);
        due.is("its fall", Due.falls(x), "/5");
        falls("left,forward", "outers ring", "/5");
        // nobody is meant: 4 is named first
        falls("", "centers ring", "/4");
        falls("men around", "belles ring", "/4");
    }
}

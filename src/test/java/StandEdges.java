/** The boundaries of what is asked of who stands where: promises 9 to 12. */
final class StandEdges {
    private static final int BAD = SquareCaller.BAD;
    private static final int NOT = SquareCaller.NOT;
    private static final int[] FAR = {-100, 100, Integer.MIN_VALUE, Integer.MAX_VALUE};

    private final Due due;

    StandEdges(Due due) {
        this.due = due;
    }

    void all(Edges on) {
        on.sentence(0, "DANCERS 0 .. 7: couple d / 2, the man the even one, the lady the other.", this::dancers);
        on.sentence(0, "WHO: all; heads (couples 0, 2), sides (1, 3), men, ladies;", this::who);
        on.sentence(0, "HOME: 0 at (1, 0), 1 at (2, 0), both FACING 0; 2 at (3, 1), 3 at (3, 2), FACING 3; 4 at "
                + "(2, 3), 5 at (1, 3), FACING 2; 6 at (0, 2), 7 at (0, 1), FACING 1. All are HOME at first.",
                this::homes);
        on.sentence(9, "Where a DANCER stands (what 0), is FACING (1);", this::whereAndFacing);
        on.sentence(9, "who stands ahead of it (2; on the neighbouring cell; NOT: nobody), at its right (3), "
                + "its left (4), behind it (5). BAD.", this::neighbours);
        on.sentence(10, "Who stands on a cell; NOT: nobody. BAD.", this::on);
        on.sentence(11, "WHO is meant (bits) by the n-th word of WHO's order (0 .. 8). BAD.", this::meant);
        on.sentence(12, "AT HOME: on their cells (what 0), FACING so, too (1); COUPLES (2). BAD.", this::count);
        on.sentence(0, "AT HOME: how many stand on their HOME cell; FACING as there, too.", this::atHome);
        on.sentence(0, "COUPLES: how many have man and lady side by side, FACING the same way, she at his right.",
                this::couples);
    }

    private void dancers() {
        SquareCaller x = new SquareCaller();
        for (int what = 0; what <= 5; what++) {
            due.is("dancer -1, what " + what, x.at(-1, what), BAD);
            due.is("dancer 0, what " + what, x.at(0, what), what == 0 ? 1 : what == 1 ? 0 : what == 3 ? 1 : NOT);
            due.is("dancer 7, what " + what, x.at(7, what), what == 0 ? 4 : what == 1 ? 1 : what == 4 ? 6 : NOT);
            due.is("dancer 8, what " + what, x.at(8, what), BAD);
            for (int dancer : FAR) {
                due.is("dancer " + dancer + ", what " + what, x.at(dancer, what), BAD);
            }
        }
        Witness.refused(due, "at(-1, 0)", Witness::busyWithTape, o -> o.at(-1, 0), BAD);
        Witness.refused(due, "at(8, 5)", Witness::busyWithTape, o -> o.at(8, 5), BAD);
    }

    private void who() {
        // wherever they stand
        for (String text : new String[] {"", "heads forward", "slide", "ring 3", "left,forward"}) {
            SquareCaller x = Due.after(text);
            due.is("all after " + text, x.meant(0), 0b11111111);
            due.is("heads after " + text, x.meant(1), 0b00110011);
            due.is("sides after " + text, x.meant(2), 0b11001100);
            due.is("men after " + text, x.meant(3), 0b01010101);
            due.is("ladies after " + text, x.meant(4), 0b10101010);
        }
    }

    private void homes() {
        int[] xs = {1, 2, 3, 3, 2, 1, 0, 0};
        int[] ys = {0, 0, 1, 2, 3, 3, 2, 1};
        int[] facings = {0, 0, 3, 3, 2, 2, 1, 1};
        SquareCaller first = new SquareCaller();
        SquareCaller again = Due.after("left,forward");
        again.home();
        for (int d = 0; d < 8; d++) {
            due.is("the cell of " + d, first.at(d, 0), 4 * ys[d] + xs[d]);
            due.is("the FACING of " + d, first.at(d, 1), facings[d]);
            due.is("the cell of " + d + " after home()", again.at(d, 0), 4 * ys[d] + xs[d]);
            due.is("the FACING of " + d + " after home()", again.at(d, 1), facings[d]);
        }
    }

    private void whereAndFacing() {
        SquareCaller x = new SquareCaller();
        int[] cells = {1, 2, 7, 11, 14, 13, 8, 4};
        int[] facings = {0, 0, 3, 3, 2, 2, 1, 1};
        for (int d = 0; d < 8; d++) {
            due.is("what -1 of " + d, x.at(d, -1), BAD);
            due.is("what 0 of " + d, x.at(d, 0), cells[d]);
            due.is("what 1 of " + d, x.at(d, 1), facings[d]);
            due.is("what 6 of " + d, x.at(d, 6), BAD);
            for (int what : FAR) {
                due.is("what " + what + " of " + d, x.at(d, what), BAD);
            }
        }
        // the cells 0 and 15, the FACINGS 0 and 3
        SquareCaller corner = Due.after("left,forward");
        due.is("the least cell", corner.at(0, 0), 0);
        due.is("the greatest cell", corner.at(4, 0), 15);
        due.is("the greatest FACING", corner.at(0, 1), 3);
        due.is("the least FACING", corner.at(6, 1), 0);
        Witness.refused(due, "at(0, -1)", Witness::busyWithTape, o -> o.at(0, -1), BAD);
        Witness.refused(due, "at(0, 6)", Witness::busyWithTape, o -> o.at(0, 6), BAD);
    }

    private void around(String text, int d, int ahead, int right, int left, int behind) {
        SquareCaller x = Due.after(text);
        due.is(text + ": ahead of " + d, x.at(d, 2), ahead);
        due.is(text + ": right of " + d, x.at(d, 3), right);
        due.is(text + ": left of " + d, x.at(d, 4), left);
        due.is(text + ": behind " + d, x.at(d, 5), behind);
    }

    private void neighbours() {
        // a free cell, and none at all: the edges of THE FLOOR in all four ways
        around("", 0, NOT, 1, NOT, NOT);
        around("", 2, NOT, 3, NOT, NOT);
        around("", 4, NOT, 5, NOT, NOT);
        around("", 6, NOT, 7, NOT, NOT);
        around("", 1, NOT, NOT, 0, NOT);
        around("", 7, NOT, NOT, 6, NOT);
        around("around", 0, NOT, NOT, 1, NOT);
        // 7>6v5v4<|8>1^2^3<: somebody at each hand
        around("heads forward", 0, 5, 1, 7, NOT);
        around("heads forward", 4, 1, 5, 3, NOT);
        around("heads forward,heads around", 0, NOT, 7, 1, 5);
        // two cells away is not beside: 6> and 4<, 1^ and 2^
        around("heads left,men forward,heads right", 6, NOT, NOT, 5, NOT);
        around("heads left,men forward,heads right", 0, 7, NOT, NOT, NOT);
        // the end of a row and the next row's first cell are no neighbours: 2 on 7 and 6 on 8, 1 on 3 and 6 on 4
        around("heads forward,around", 2, NOT, NOT, 3, 1);
        around("heads forward,around", 6, NOT, NOT, 7, 5);
        around("left,back,ladies right", 1, NOT, NOT, 0, NOT);
        around("left,back,ladies right", 6, NOT, NOT, NOT, 7);
        Witness.refused(due, "at(6, 2)", Witness::busyWithTape, o -> o.at(6, 2), NOT);
    }

    private void on() {
        int[] standing = {NOT, 0, 1, NOT, 7, NOT, NOT, 2, 6, NOT, NOT, 3, NOT, 5, 4, NOT};
        SquareCaller x = new SquareCaller();
        due.is("on(-1)", x.on(-1), BAD);
        for (int cell = 0; cell < 16; cell++) {
            due.is("on(" + cell + ")", x.on(cell), standing[cell]);
        }
        due.is("on(16)", x.on(16), BAD);
        for (int cell : FAR) {
            due.is("on(" + cell + ")", x.on(cell), BAD);
        }
        SquareCaller corners = Due.after("left,forward");
        due.is("somebody on 0", corners.on(0), 0);
        due.is("somebody on 15", corners.on(15), 4);
        Witness.refused(due, "on(-1)", Witness::busyWithTape, o -> o.on(-1), BAD);
        Witness.refused(due, "on(16)", Witness::busyWithTape, o -> o.on(16), BAD);
        Witness.refused(due, "on(15)", Witness::busyWithTape, o -> o.on(15), NOT);
    }

    private void meant() {
        int[] bits = {255, 51, 204, 85, 170, 0, 255, 170, 85};
        SquareCaller x = new SquareCaller();
        due.is("meant(-1)", x.meant(-1), BAD);
        for (int n = 0; n < 9; n++) {
            due.is("meant(" + n + ")", x.meant(n), bits[n]);
        }
        due.is("meant(9)", x.meant(9), BAD);
        for (int n : FAR) {
            due.is("meant(" + n + ")", x.meant(n), BAD);
        }
        // nobody, one, all
        due.is("no belles", Due.after("men around").meant(7), 0);
        due.is("one center", Due.after("heads forward,sides left,slide,heads back").meant(5), 1 << 3);
        // 6 and 7 at the left edge, the only two side by side
        due.is("one belle", Due.after("heads right,heads back,fold").meant(7), 1 << 7);
        due.is("one beau", Due.after("heads right,heads back,fold").meant(8), 1 << 6);
        due.is("all outers", x.meant(6), 255);
        Witness.refused(due, "meant(-1)", Witness::busyWithTape, o -> o.meant(-1), BAD);
        Witness.refused(due, "meant(9)", Witness::busyWithTape, o -> o.meant(9), BAD);
    }

    private void count() {
        SquareCaller x = Due.after("sides slide");
        due.is("count(-1)", x.count(-1), BAD);
        due.is("count(0)", x.count(0), 4);
        due.is("count(1)", x.count(1), 4);
        due.is("count(2)", x.count(2), 2);
        due.is("count(3)", x.count(3), BAD);
        for (int what : FAR) {
            due.is("count(" + what + ")", x.count(what), BAD);
        }
        Witness.refused(due, "count(-1)", Witness::busyWithTape, o -> o.count(-1), BAD);
        Witness.refused(due, "count(3)", Witness::busyWithTape, o -> o.count(3), BAD);
    }

    private void counts(String text, int what, int answer) {
        due.is("count(" + what + ") after " + text, Due.after(text).count(what), answer);
    }

    private void atHome() {
        counts("", 0, 8);
        counts("", 1, 8);
        // on their cells, but FACING otherwise
        counts("left", 0, 8);
        counts("left", 1, 0);
        counts("men around", 0, 8);
        counts("men around", 1, 4);
        // FACING as at HOME, but on other cells
        counts("slide", 0, 0);
        counts("slide", 1, 0);
        counts("heads forward", 0, 4);
        counts("heads forward", 1, 4);
        counts("heads fold", 0, 6);
        counts("heads fold", 1, 6);
        // FACING as HOME is on the cell where they stand, which is not theirs
        counts("ring", 0, 0);
        counts("ring", 1, 0);
        counts("ring 4,ring 3", 1, 0);
        counts("ring 4,ring 4", 1, 8);
    }

    private void couples() {
        counts("", 2, 4);
        counts("ring 2", 2, 4);
        counts("sides slide", 2, 2);
        // she at his left
        counts("slide", 2, 0);
        // side by side, FACING otherwise: at a right angle, opposite
        counts("men left", 2, 0);
        counts("ladies right", 2, 0);
        counts("ladies around", 2, 0);
        // behind him, ahead of him
        counts("left", 2, 0);
        counts("right", 2, 0);
        // trade turns them around and changes cells: she is at his right again
        counts("trade", 2, 4);
        counts("around", 2, 0);
        // at his right, two cells away
        counts("heads left,men forward,heads right", 2, 0);
        // a lady at his right who is not of his couple
        counts("slide,ring", 2, 0);
        // a man at her right
        counts("ring", 2, 0);
    }
}

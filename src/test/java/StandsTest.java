/** Promises 9 to 12: at, on, meant, count. */
public final class StandsTest {
    private static final Due due = new Due();
    private static final int NOT = SquareCaller.NOT;
    private static final int BAD = SquareCaller.BAD;
    private static final int[] STRANGE = {-100, -2, -1, 16, 100, Integer.MIN_VALUE, Integer.MAX_VALUE};

    public static void main(String[] args) {
        at();
        atNeighbours();
        on();
        meantAtHome();
        meantElsewhere();
        count();
        due.end("StandsTest");
    }

    private static void at() {
        SquareCaller x = new SquareCaller();
        int[] cells = {1, 2, 7, 11, 14, 13, 8, 4};
        int[] facings = {0, 0, 3, 3, 2, 2, 1, 1};
        for (int d = 0; d < 8; d++) {
            due.is("9: at(" + d + ", 0)", x.at(d, 0), cells[d]);
            due.is("9: at(" + d + ", 1)", x.at(d, 1), facings[d]);
            for (int what : new int[] {-1, 6, Integer.MIN_VALUE, Integer.MAX_VALUE}) {
                due.is("9: at(" + d + ", " + what + ")", x.at(d, what), BAD);
            }
        }
        for (int d : new int[] {-1, 8, Integer.MIN_VALUE, Integer.MAX_VALUE}) {
            for (int what = -1; what <= 6; what++) {
                due.is("9: at(" + d + ", " + what + ")", x.at(d, what), BAD);
            }
        }
        due.is("9: at(0, 0) after left", Due.after("left").at(0, 0), 1);
        due.is("9: at(0, 1) after left", Due.after("left").at(0, 1), 3);
        due.is("9: at(2, 1) after left", Due.after("left").at(2, 1), 2);
        due.is("9: at(7, 1) after right", Due.after("right").at(7, 1), 2);
    }

    private static void around(SquareCaller x, int d, int ahead, int right, int left, int behind) {
        due.is("9: ahead of " + d, x.at(d, 2), ahead);
        due.is("9: right of " + d, x.at(d, 3), right);
        due.is("9: left of " + d, x.at(d, 4), left);
        due.is("9: behind " + d, x.at(d, 5), behind);
    }

    private static void atNeighbours() {
        SquareCaller x = new SquareCaller();
        around(x, 0, NOT, 1, NOT, NOT);
        around(x, 1, NOT, NOT, 0, NOT);
        around(x, 2, NOT, 3, NOT, NOT);
        around(x, 7, NOT, NOT, 6, NOT);
        // 7>6v5v4< above 8>1^2^3<
        SquareCaller y = Due.after("heads forward");
        around(y, 0, 5, 1, 7, NOT);
        around(y, 1, 4, 2, 0, NOT);
        around(y, 2, 1, 3, NOT, NOT);
        around(y, 4, 1, 5, 3, NOT);
        around(y, 6, 5, 7, NOT, NOT);
        // a floor's edge is no neighbour of the next row's first cell
        SquareCaller z = Due.after("heads forward,right");
        around(z, 2, 3, NOT, 1, NOT);
        around(z, 7, NOT, NOT, 0, 6);
    }

    private static void on() {
        SquareCaller x = new SquareCaller();
        int[] standing = {NOT, 0, 1, NOT, 7, NOT, NOT, 2, 6, NOT, NOT, 3, NOT, 5, 4, NOT};
        for (int cell = 0; cell < 16; cell++) {
            due.is("10: on(" + cell + ")", x.on(cell), standing[cell]);
        }
        for (int cell : STRANGE) {
            due.is("10: on(" + cell + ")", x.on(cell), BAD);
        }
        SquareCaller y = Due.after("heads forward");
        due.is("10: on(1), left by 0", y.on(1), NOT);
        due.is("10: on(5), where 0 went", y.on(5), 0);
        due.is("10: on(10), where 4 went", y.on(10), 4);
        y.undo();
        due.is("10: on(1) after undo", y.on(1), 0);
    }

    private static void meantAtHome() {
        SquareCaller x = new SquareCaller();
        int[] bits = {255, 51, 204, 85, 170, 0, 255, 170, 85};
        for (int n = 0; n < 9; n++) {
            due.is("11: meant(" + n + ")", x.meant(n), bits[n]);
        }
        for (int n : STRANGE) {
            due.is("11: meant(" + n + ")", x.meant(n), BAD);
        }
        due.is("11: meant(9)", x.meant(9), BAD);
    }

    private static void meantElsewhere() {
        SquareCaller x = Due.after("heads forward");
        due.is("11: centers", x.meant(5), 51);
        due.is("11: outers", x.meant(6), 204);
        // men and ladies of a couple no longer face one way
        SquareCaller y = Due.after("men around");
        due.is("11: belles, none", y.meant(7), 0);
        due.is("11: beaus, none", y.meant(8), 0);
        // ladies stand left of their men
        SquareCaller z = Due.after("slide");
        due.is("11: belles are men", z.meant(7), 85);
        due.is("11: beaus are ladies", z.meant(8), 170);
        // 7^6v5v4v above 8^1^2^3v: the one between two is both
        SquareCaller row = Due.after("heads forward,sides left");
        due.is("11: belles in a row", row.meant(7), 1 | 2 | 16 | 32);
        due.is("11: beaus in a row", row.meant(8), 128 | 1 | 8 | 16);
    }

    private static void count() {
        SquareCaller x = new SquareCaller();
        due.is("12: count(0)", x.count(0), 8);
        due.is("12: count(1)", x.count(1), 8);
        due.is("12: count(2)", x.count(2), 4);
        for (int what : STRANGE) {
            due.is("12: count(" + what + ")", x.count(what), BAD);
        }
        due.is("12: count(3)", x.count(3), BAD);
        counts("heads forward", 4, 4, 4);
        counts("men left", 8, 4, 0);
        counts("left", 8, 0, 0);
        counts("slide", 0, 0, 0);
        counts("sides slide", 4, 4, 2);
        counts("around", 8, 0, 0);
        counts("trade", 0, 0, 4);
        counts("ring", 0, 0, 0);
        counts("ring 2", 0, 0, 4);
        counts("heads fold", 6, 6, 2);
    }

    private static void counts(String text, int cells, int facing, int couples) {
        SquareCaller x = Due.after(text);
        due.is("12: count(0) after " + text, x.count(0), cells);
        due.is("12: count(1) after " + text, x.count(1), facing);
        due.is("12: count(2) after " + text, x.count(2), couples);
    }
}

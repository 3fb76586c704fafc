/**
 * A square of eight who dance by calls told as texts. What each call answers is said in the
 * project's document, by numbered promises; the words in capitals below are the document's.
 */
public final class SquareCaller {
    public static final int BAD = -1, NOT = -2, FULL = -3, STATE = -5, LONG = -7;

    private static final int DANCERS = 8;
    private static final int SIDE = 4;
    private static final int CELLS = SIDE * SIDE;
    private static final int QUARTERS = 4;
    private static final int NOBODY = -1;
    private static final int OFF_FLOOR = -1;
    private static final int NO_FAULT = -1;

    /** A call is told by one number: this many times its WHO, and its FIGURE. */
    private static final int PER_WHO = 100;
    private static final int FAULT_BASE = -100;
    private static final int MOST_ROUNDS = 100;
    /** How many times at most one CALL of a TEXT tells. */
    private static final int MOST_TIMES = 4;
    private static final int NEW_LINE = 10;

    private static final int AHEAD = 0, TO_RIGHT = 1, BEHIND = 2, TO_LEFT = 3;

    private static final int WHOS = 9;
    private static final int ALL = 0, HEADS = 1, SIDES = 2, MEN = 3, LADIES = 4, CENTERS = 5, OUTERS = 6,
            BELLES = 7, BEAUS = 8;

    private static final int FIGURES = 12;
    private static final int FORWARD = 0, BACKWARD = 1, LEFT = 2, RIGHT = 3, AROUND = 4, PASS = 5, STAR = 6,
            BOX = 7, SLIDE = 8, TRADE = 9, FOLD = 10, RING = 11;

    private static final int OFF = 1, BLOCKED = 2, CROWDED = 3, NO_DOER = 4, NO_RING = 5;

    private static final int[] HOME_CELLS = {1, 2, 7, 11, 14, 13, 8, 4};
    private static final int[] HOME_FACINGS = {0, 0, 3, 3, 2, 2, 1, 1};
    private static final int[] STEP_X = {0, 1, 0, -1};
    private static final int[] STEP_Y = {1, 0, -1, 0};
    private static final char[] FACING_SIGNS = {'^', '>', 'v', '<'};

    private final Tape tape = new Tape();
    private final Floor floor = new Floor();
    private final Dance current = new Dance();
    private final Dance kept = new Dance();
    private boolean isKept = false;
    private final Falls latestFalls = new Falls();
    private final WayHome wayHome = new WayHome();
    private final Print print = new Print();
    private final int[] tally = new int[FIGURES];

    public SquareCaller() {
    }

    // ---- calls

    public int feed(int letter) {
        if (letter < 32 || letter > 126) {
            return BAD;
        }
        return tape.put(letter) ? tape.length : FULL;
    }

    public int dance() {
        int fault = tape.take();
        if (fault != NO_FAULT) {
            return FAULT_BASE - fault;
        }
        if (current.size + tape.callCount > Dance.MOST) {
            return FULL;
        }
        latestFalls.clear();
        for (int i = 0; i < tape.callCount; i++) {
            int code = tape.codeAt(i);
            floor.load(current.latest());
            if (!floor.plan(code)) {
                latestFalls.note(floor);
                return i;
            }
            current.add(code, floor.planned());
            tallyFigure(code);
        }
        return tape.callCount;
    }

    public int fall(int what) {
        if (what < -1) {
            return BAD;
        }
        if (what == -1) {
            return latestFalls.whyNobody;
        }
        if (what == 0) {
            return latestFalls.size;
        }
        return latestFalls.has(what - 1) ? latestFalls.rows[what - 1] : NOT;
    }

    public int would() {
        int fault = tape.take();
        if (fault != NO_FAULT) {
            return FAULT_BASE - fault;
        }
        if (tape.callCount != 1) {
            return BAD;
        }
        floor.load(current.latest());
        return floor.plan(tape.codeAt(0)) ? floor.doers : NOT;
    }

    public int undo() {
        return current.stepBack() ? current.size : STATE;
    }

    public int redo() {
        if (!current.stepAgain()) {
            return STATE;
        }
        tallyFigure(current.codeAt(current.size - 1));
        return current.size;
    }

    public int home() {
        int had = current.size;
        current.clear();
        return had;
    }

    // ---- who stands where

    public int at(int dancer, int what) {
        if (dancer < 0 || dancer >= DANCERS || what < 0 || what > 5) {
            return BAD;
        }
        floor.load(current.latest());
        switch (what) {
            case 0:
                return floor.cells[dancer];
            case 1:
                return floor.facings[dancer];
            case 2:
                return orNot(floor.beside(dancer, AHEAD));
            case 3:
                return orNot(floor.beside(dancer, TO_RIGHT));
            case 4:
                return orNot(floor.beside(dancer, TO_LEFT));
            default:
                return orNot(floor.beside(dancer, BEHIND));
        }
    }

    public int on(int cell) {
        if (cell < 0 || cell >= CELLS) {
            return BAD;
        }
        floor.load(current.latest());
        return orNot(floor.standing[cell]);
    }

    public int meant(int n) {
        if (n < 0 || n >= WHOS) {
            return BAD;
        }
        floor.load(current.latest());
        return floor.meantBy(n);
    }

    public int count(int what) {
        floor.load(current.latest());
        switch (what) {
            case 0:
                return floor.atHome(false);
            case 1:
                return floor.atHome(true);
            case 2:
                return floor.couples();
            default:
                return BAD;
        }
    }

    // ---- ways

    public int way(int i) {
        if (i < -1) {
            return BAD;
        }
        if (wayHome.start != current.latest()) {
            wayHome.search(current.latest());
        }
        if (wayHome.answer < 0 || i == -1) {
            return wayHome.answer;
        }
        return i < wayHome.answer ? wayHome.codeAt(i) : NOT;
    }

    public int round() {
        int fault = tape.take();
        if (fault != NO_FAULT) {
            return FAULT_BASE - fault;
        }
        long first = current.latest();
        floor.load(first);
        for (int times = 1; times <= MOST_ROUNDS; times++) {
            if (!danceInThought()) {
                return NOT;
            }
            if (floor.packed() == first) {
                return times;
            }
        }
        return NOT;
    }

    public int alike(int sort) {
        if (sort < 0 || sort > 1) {
            return BAD;
        }
        if (!isKept) {
            return STATE;
        }
        long now = current.latest();
        long turning = kept.latest();
        for (int quarters = 0; quarters < QUARTERS; quarters++) {
            if (turning == now) {
                return quarters;
            }
            turning = Packed.turned(turning, sort == 0);
        }
        return NOT;
    }

    public int squares(int sort) {
        if (sort < 0 || sort > 2) {
            return BAD;
        }
        return current.unlike(sort);
    }

    // ---- the dance printed

    public int text(int i) {
        if (i < -1) {
            return BAD;
        }
        print.write(current, i);
        if (i == -1) {
            return print.length;
        }
        return i < print.length ? print.found : NOT;
    }

    public int picture(int i) {
        int width = 2 * SIDE + 1;
        if (i < -1) {
            return BAD;
        }
        if (i == -1) {
            return width * SIDE;
        }
        if (i >= width * SIDE) {
            return NOT;
        }
        int column = i % width;
        if (column == 2 * SIDE) {
            return NEW_LINE;
        }
        floor.load(current.latest());
        return floor.signOf(SIDE * (SIDE - 1 - i / width) + column / 2, column % 2 == 0);
    }

    public int call(int i) {
        if (i < -1) {
            return BAD;
        }
        if (i == -1) {
            return current.size;
        }
        return i < current.size ? current.codeAt(i) : NOT;
    }

    public int danced(int figure) {
        return figure < 0 || figure >= FIGURES ? BAD : tally[figure];
    }

    // ---- the image

    public int image() {
        kept.copyFrom(current);
        isKept = true;
        return current.size;
    }

    public int back() {
        if (!isKept) {
            return STATE;
        }
        current.copyFrom(kept);
        return current.size;
    }

    // ---- helpers

    private static int orNot(int dancer) {
        return dancer == NOBODY ? NOT : dancer;
    }

    private void tallyFigure(int code) {
        int figure = code % PER_WHO;
        if (figure >= 0 && figure < FIGURES) {
            tally[figure]++;
        }
    }

    /** Dances the calls taken from THE TAPE on the scratch floor alone; false: one of them FALLS. */
    private boolean danceInThought() {
        for (int i = 0; i < tape.callCount; i++) {
            if (!floor.plan(tape.codeAt(i))) {
                return false;
            }
            floor.load(floor.planned());
        }
        return true;
    }

    /** The words of the calls, in the document's orders. */
    private static final class Words {
        private Words() {
        }

        static String ofWho(int who) {
            switch (who) {
                case ALL: return "all";
                case HEADS: return "heads";
                case SIDES: return "sides";
                case MEN: return "men";
                case LADIES: return "ladies";
                case CENTERS: return "centers";
                case OUTERS: return "outers";
                case BELLES: return "belles";
                case BEAUS: return "beaus";
                default: return "";
            }
        }

        static String ofFigure(int figure) {
            switch (figure) {
                case FORWARD: return "forward";
                case BACKWARD: return "back";
                case LEFT: return "left";
                case RIGHT: return "right";
                case AROUND: return "around";
                case PASS: return "pass";
                case STAR: return "star";
                case BOX: return "box";
                case SLIDE: return "slide";
                case TRADE: return "trade";
                case FOLD: return "fold";
                case RING: return "ring";
                default: return "";
            }
        }
    }

    /**
     * A SQUARE as one number, so that two of them are compared and kept without objects: six bits
     * for each DANCER, its cell in the lower four, its FACING in the upper two.
     */
    private static final class Packed {
        private static final int CELL_BITS = 4;
        private static final int BITS = CELL_BITS + 2;

        private Packed() {
        }

        static long bits(int dancer, int cell, int facing) {
            return (long) (cell + CELLS * facing) << (BITS * dancer);
        }

        static int cellOf(long square, int dancer) {
            return (int) (square >> (BITS * dancer)) & (CELLS - 1);
        }

        static int facingOf(long square, int dancer) {
            return (int) (square >> (BITS * dancer + CELL_BITS)) & 3;
        }

        static long of(int[] cells, int[] facings) {
            long square = 0;
            for (int d = 0; d < DANCERS && d < cells.length && d < facings.length; d++) {
                square |= bits(d, cells[d], facings[d]);
            }
            return square;
        }

        static long atFirst() {
            return of(HOME_CELLS, HOME_FACINGS);
        }

        static long turned(long square, boolean renamed) {
            long turned = 0;
            for (int d = 0; d < DANCERS; d++) {
                int cell = cellOf(square, d);
                int x = SIDE - 1 - cell / SIDE;
                int y = cell % SIDE;
                int name = renamed ? (d + 2) % DANCERS : d;
                turned |= bits(name, SIDE * y + x, (facingOf(square, d) + 3) % 4);
            }
            return turned;
        }

        /** The least of the four turned ones: the same for SQUARES that are ALIKE, and for no others. */
        static long least(long square, boolean renamed) {
            long least = square;
            long turning = square;
            for (int quarters = 1; quarters < QUARTERS; quarters++) {
                turning = turned(turning, renamed);
                least = Math.min(least, turning);
            }
            return least;
        }

        static boolean isAmong(long square, long[] row, int size) {
            for (int i = 0; i < size && i < row.length; i++) {
                if (row[i] == square) {
                    return true;
                }
            }
            return false;
        }
    }

    /** THE TAPE, and the calls of the TEXT that was last taken from it. */
    private static final class Tape {
        private static final int MOST = 120;

        private final int[] bytes = new int[MOST];
        private int length = 0;
        /** No TEXT of 120 bytes has as many calls as bytes: four of them take five at least. */
        private final int[] codes = new int[MOST];
        private int callCount = 0;

        boolean put(int letter) {
            if (length >= MOST) {
                return false;
            }
            bytes[length] = letter;
            length++;
            return true;
        }

        /** Reads the TEXT and empties THE TAPE: the FAULT, or NO_FAULT. */
        int take() {
            callCount = 0;
            int fault = readText();
            length = 0;
            return fault;
        }

        int codeAt(int i) {
            return i >= 0 && i < callCount ? codes[i] : 0;
        }

        private int readText() {
            int place = 0;
            for (int calls = 0; calls <= MOST; calls++) {
                int end = readCall(place);
                if (end < 0) {
                    return -1 - end;
                }
                if (end == length) {
                    return NO_FAULT;
                }
                if (byteAt(end) != ',') {
                    return end;
                }
                place = end + 1;
            }
            return place;
        }

        /** Reads a CALL: the place behind it; a FAULT f comes back as -1 - f. */
        private int readCall(int start) {
            int who = ALL;
            int word = start;
            int end = wordEnd(word);
            int figure = figureIn(word, end);
            if (figure < 0) {
                who = whoIn(word, end);
                if (who < 0) {
                    return -1 - word;
                }
                if (byteAt(end) != ' ') {
                    return -1 - end;
                }
                word = end + 1;
                end = wordEnd(word);
                figure = figureIn(word, end);
                if (figure < 0) {
                    return -1 - word;
                }
            }
            int times = 1;
            if (byteAt(end) == ' ') {
                times = byteAt(end + 1) - '0';
                if (times < 2 || times > MOST_TIMES) {
                    return -1 - (end + 1);
                }
                end += 2;
            }
            addCalls(PER_WHO * who + figure, times);
            return end;
        }

        private void addCalls(int code, int times) {
            for (int i = 0; i < times && callCount < MOST; i++) {
                codes[callCount] = code;
                callCount++;
            }
        }

        /** The byte there, or 0, which no TEXT holds, where there is none. */
        private int byteAt(int place) {
            return place >= 0 && place < length ? bytes[place] : 0;
        }

        private int wordEnd(int start) {
            int end = start;
            while (end < length && byteAt(end) >= 'a' && byteAt(end) <= 'z') {
                end++;
            }
            return end;
        }

        private int whoIn(int start, int end) {
            for (int who = 0; who < WHOS; who++) {
                if (isWord(Words.ofWho(who), start, end)) {
                    return who;
                }
            }
            return -1;
        }

        private int figureIn(int start, int end) {
            for (int figure = 0; figure < FIGURES; figure++) {
                if (isWord(Words.ofFigure(figure), start, end)) {
                    return figure;
                }
            }
            return -1;
        }

        private boolean isWord(String word, int start, int end) {
            if (end - start != word.length()) {
                return false;
            }
            for (int i = 0; i < word.length(); i++) {
                if (byteAt(start + i) != word.charAt(i)) {
                    return false;
                }
            }
            return true;
        }
    }

    /** One SQUARE laid out on THE FLOOR, and one call planned on it: where each would go, or who FALLS. */
    private static final class Floor {
        private final int[] cells = new int[DANCERS];
        private final int[] facings = new int[DANCERS];
        private final int[] standing = new int[CELLS];
        private final int[] toCells = new int[DANCERS];
        private final int[] toFacings = new int[DANCERS];
        /** Why each DANCER FALLS by the plan; 0: it does not. */
        private final int[] why = new int[DANCERS];
        private int whyNobody = 0;
        private int doers = 0;

        void load(long square) {
            for (int cell = 0; cell < CELLS; cell++) {
                standing[cell] = NOBODY;
            }
            for (int d = 0; d < DANCERS; d++) {
                int cell = Packed.cellOf(square, d);
                cells[d] = cell;
                facings[d] = Packed.facingOf(square, d);
                standing[cell] = d;
            }
        }

        long packed() {
            return Packed.of(cells, facings);
        }

        /** The SQUARE that a plan without FALLS leads to. */
        long planned() {
            return Packed.of(toCells, toFacings);
        }

        /** Plans a call, told by its number; false: it FALLS. */
        boolean plan(int code) {
            int figure = code % PER_WHO;
            int meant = meantBy(code / PER_WHO);
            startPlan();
            if (meant == 0) {
                whyNobody = NO_DOER;
                return false;
            }
            if (figure == RING) {
                planRing(meant);
            } else if (figure <= AROUND) {
                planEach(meant, figure);
            } else {
                planPairs(meant, figure);
            }
            // whoever changes cells within a pair can't be in anyone's way
            boolean mayFall = figure == FORWARD || figure == BACKWARD || figure == FOLD;
            return whyNobody == 0 && !(mayFall && someFall());
        }

        private void startPlan() {
            for (int d = 0; d < DANCERS; d++) {
                toCells[d] = cells[d];
                toFacings[d] = facings[d];
                why[d] = 0;
            }
            whyNobody = 0;
            doers = 0;
        }

        private void planRing(int meant) {
            if (meant != (1 << DANCERS) - 1 || !isRing()) {
                whyNobody = NO_RING;
                return;
            }
            for (int i = 0; i < DANCERS; i++) {
                int d = standing[HOME_CELLS[i]];
                int next = (i + 1) % DANCERS;
                if (d != NOBODY) {
                    toCells[d] = HOME_CELLS[next];
                    toFacings[d] = HOME_FACINGS[next];
                }
            }
            doers = DANCERS;
        }

        private boolean isRing() {
            for (int i = 0; i < DANCERS; i++) {
                if (standing[HOME_CELLS[i]] == NOBODY) {
                    return false;
                }
            }
            return true;
        }

        private void planEach(int meant, int figure) {
            for (int d = 0; d < DANCERS; d++) {
                if (!isIn(d, meant)) {
                    continue;
                }
                doers++;
                switch (figure) {
                    case FORWARD:
                        toCells[d] = neighbour(cells[d], facings[d]);
                        break;
                    case BACKWARD:
                        toCells[d] = neighbour(cells[d], facings[d] + BEHIND);
                        break;
                    case LEFT:
                        turn(d, TO_LEFT);
                        break;
                    case RIGHT:
                        turn(d, TO_RIGHT);
                        break;
                    default:
                        turn(d, BEHIND);
                        break;
                }
            }
        }

        private void planPairs(int meant, int figure) {
            int free = meant;
            for (int d = 0; d < DANCERS; d++) {
                int other = isIn(d, free) ? partnerOf(d, free, figure) : NOBODY;
                if (other == NOBODY) {
                    continue;
                }
                free &= ~(1 << d | 1 << other);
                doers++;
                if (figure == FOLD) {
                    planFold(d, other);
                } else {
                    planChange(d, other, figure);
                }
            }
            if (doers == 0) {
                whyNobody = NO_DOER;
            }
        }

        private int partnerOf(int d, int free, int figure) {
            if (figure == PASS || figure == STAR || figure == BOX) {
                int other = beside(d, AHEAD);
                boolean fits = isIn(other, free) && facings[other] == (facings[d] + 2) % 4
                        && (figure != STAR || other % 2 != d % 2);
                return fits ? other : NOBODY;
            }
            int right = beside(d, TO_RIGHT);
            if (isIn(right, free) && facings[right] == facings[d]) {
                return right;
            }
            int left = beside(d, TO_LEFT);
            return isIn(left, free) && facings[left] == facings[d] ? left : NOBODY;
        }

        private void planFold(int d, int other) {
            boolean otherIsRight = beside(d, TO_RIGHT) == other;
            int left = otherIsRight ? d : other;
            int right = otherIsRight ? other : d;
            toCells[right] = neighbour(cells[left], facings[left]);
            turn(right, BEHIND);
        }

        private void planChange(int d, int other, int figure) {
            toCells[d] = cells[other];
            toCells[other] = cells[d];
            if (figure == STAR) {
                turn(d, d % 2 == 0 ? TO_RIGHT : TO_LEFT);
                turn(other, other % 2 == 0 ? TO_RIGHT : TO_LEFT);
            } else if (figure == BOX) {
                turn(d, TO_RIGHT);
                turn(other, TO_RIGHT);
            } else if (figure == TRADE) {
                turn(d, BEHIND);
                turn(other, BEHIND);
            }
        }

        private void turn(int d, int rights) {
            toFacings[d] = (facings[d] + rights) % 4;
        }

        private boolean someFall() {
            boolean some = false;
            for (int d = 0; d < DANCERS; d++) {
                why[d] = goes(d) ? whyFalls(d) : 0;
                some |= why[d] != 0;
            }
            return some;
        }

        private boolean goes(int d) {
            return toCells[d] != cells[d];
        }

        private int whyFalls(int d) {
            int target = toCells[d];
            if (target == OFF_FLOOR) {
                return OFF;
            }
            int there = standing[target];
            if (there != NOBODY && (!goes(there) || toCells[there] == cells[d])) {
                return BLOCKED;
            }
            for (int e = 0; e < DANCERS; e++) {
                if (e != d && toCells[e] == target) {
                    return CROWDED;
                }
            }
            return 0;
        }

        /** Who is meant by a word of WHO's order, as bits. */
        int meantBy(int who) {
            int bits = 0;
            for (int d = 0; d < DANCERS; d++) {
                if (isMeant(d, who)) {
                    bits |= 1 << d;
                }
            }
            return bits;
        }

        private boolean isMeant(int d, int who) {
            switch (who) {
                case ALL:
                    return true;
                case HEADS:
                    return d / 2 % 2 == 0;
                case SIDES:
                    return d / 2 % 2 == 1;
                case MEN:
                    return d % 2 == 0;
                case LADIES:
                    return d % 2 == 1;
                case CENTERS:
                    return isCenter(cells[d]);
                case OUTERS:
                    return !isCenter(cells[d]);
                case BELLES:
                    return facesLike(d, beside(d, TO_LEFT));
                case BEAUS:
                    return facesLike(d, beside(d, TO_RIGHT));
                default:
                    return false;
            }
        }

        private boolean facesLike(int d, int other) {
            return other != NOBODY && facings[other] == facings[d];
        }

        private static boolean isCenter(int cell) {
            int x = cell % SIDE;
            int y = cell / SIDE;
            return x >= 1 && x <= 2 && y >= 1 && y <= 2;
        }

        private static boolean isIn(int d, int bits) {
            return d != NOBODY && (bits >> d & 1) == 1;
        }

        /** Who stands on the neighbouring cell that lies so many RIGHTs from the way a DANCER is FACING. */
        int beside(int dancer, int rights) {
            int cell = neighbour(cells[dancer], facings[dancer] + rights);
            return cell == OFF_FLOOR ? NOBODY : standing[cell];
        }

        private static int neighbour(int cell, int facing) {
            int x = cell % SIDE + STEP_X[facing & 3];
            int y = cell / SIDE + STEP_Y[facing & 3];
            boolean isOn = x >= 0 && x < SIDE && y >= 0 && y < SIDE;
            return isOn ? SIDE * y + x : OFF_FLOOR;
        }

        int atHome(boolean facingToo) {
            int n = 0;
            for (int d = 0; d < DANCERS; d++) {
                if (cells[d] == HOME_CELLS[d] && (!facingToo || facings[d] == HOME_FACINGS[d])) {
                    n++;
                }
            }
            return n;
        }

        int couples() {
            int n = 0;
            for (int man = 0; man < DANCERS; man += 2) {
                int lady = man + 1;
                if (beside(man, TO_RIGHT) == lady && facesLike(man, lady)) {
                    n++;
                }
            }
            return n;
        }

        /** One of the two bytes by which the picture shows a cell. */
        int signOf(int cell, boolean isFirst) {
            int d = cell >= 0 && cell < CELLS ? standing[cell] : NOBODY;
            if (d == NOBODY) {
                return '.';
            }
            return isFirst ? '1' + d : FACING_SIGNS[facings[d] & 3];
        }
    }

    /** Who fell, and why, in the latest dance() that danced a TEXT. */
    private static final class Falls {
        private final int[] rows = new int[DANCERS];
        private int size = 0;
        private int whyNobody = 0;

        void clear() {
            size = 0;
            whyNobody = 0;
        }

        void note(Floor floor) {
            clear();
            whyNobody = floor.whyNobody;
            for (int d = 0; d < DANCERS; d++) {
                if (floor.why[d] != 0) {
                    rows[size] = 10 * d + floor.why[d];
                    size++;
                }
            }
        }

        boolean has(int i) {
            return i >= 0 && i < size;
        }
    }

    /** THE DANCE: its calls, the SQUARES it went through, and what was undone. */
    private static final class Dance {
        private static final int MOST = 200;

        private final int[] codes = new int[MOST];
        /** The SQUARE ahead of each call, and behind the latest one. */
        private final long[] passed = new long[MOST + 1];
        private final long[] scratch = new long[MOST + 1];
        private int size = 0;
        /** The calls, with those that were undone and can be danced again behind them. */
        private int sizeWithUndone = 0;

        Dance() {
            passed[0] = Packed.atFirst();
        }

        long latest() {
            return passed[size];
        }

        int codeAt(int i) {
            return i >= 0 && i < size ? codes[i] : 0;
        }

        void add(int code, long square) {
            if (size >= MOST) {
                return;
            }
            codes[size] = code;
            size++;
            passed[size] = square;
            sizeWithUndone = size;
        }

        boolean stepBack() {
            if (size == 0) {
                return false;
            }
            size--;
            return true;
        }

        boolean stepAgain() {
            if (size >= sizeWithUndone) {
                return false;
            }
            size++;
            return true;
        }

        void clear() {
            size = 0;
            sizeWithUndone = 0;
        }

        void copyFrom(Dance other) {
            size = other.size;
            sizeWithUndone = other.size;
            System.arraycopy(other.codes, 0, codes, 0, size);
            System.arraycopy(other.passed, 0, passed, 0, size + 1);
        }

        /** How many unlike SQUARES it went through: as they are (0), ALIKE once, renamed (1), not (2). */
        int unlike(int sort) {
            int found = 0;
            for (int i = 0; i <= size; i++) {
                long square = sort == 0 ? passed[i] : Packed.least(passed[i], sort == 1);
                if (!Packed.isAmong(square, scratch, found)) {
                    scratch[found] = square;
                    found++;
                }
            }
            return found;
        }

        boolean isSameAsNext(int i) {
            return i + 1 < size && codeAt(i) == codeAt(i + 1);
        }
    }

    /** THE DANCE as a TEXT: it is told byte by byte, and only the byte that is asked for is kept. */
    private static final class Print {
        private int wanted = 0;
        private int found = 0;
        private int length = 0;

        void write(Dance dance, int wantedByte) {
            wanted = wantedByte;
            length = 0;
            int times = 0;
            for (int i = 0; i < dance.size; i++) {
                times++;
                if (times == MOST_TIMES || !dance.isSameAsNext(i)) {
                    writeCall(dance.codeAt(i), times);
                    times = 0;
                }
            }
        }

        private void writeCall(int code, int times) {
            int who = code / PER_WHO;
            if (length > 0) {
                put(',');
            }
            if (who != ALL) {
                putWord(Words.ofWho(who));
                put(' ');
            }
            putWord(Words.ofFigure(code % PER_WHO));
            if (times > 1) {
                put(' ');
                put('0' + times);
            }
        }

        private void putWord(String word) {
            for (int i = 0; i < word.length(); i++) {
                put(word.charAt(i));
            }
        }

        private void put(int sign) {
            if (length == wanted) {
                found = sign;
            }
            length++;
        }
    }

    /** THE WAY HOME; the latest one is kept, since it is asked for call by call. */
    private static final class WayHome {
        private static final int MOST = 250;

        private final Floor floor = new Floor();
        private final long home = Packed.atFirst();
        private final long[] reached = new long[MOST];
        private final int[] cameFrom = new int[MOST];
        private final int[] cameBy = new int[MOST];
        private int size = 0;
        private final int[] codes = new int[MOST];
        /** The SQUARE that the way begins with. */
        private long start = home;
        /** How many calls the way has, or NOT, or LONG. */
        private int answer = 0;

        int codeAt(int i) {
            return i >= 0 && i < MOST && i < answer ? codes[i] : 0;
        }

        void search(long square) {
            start = square;
            answer = square == home ? 0 : NOT;
            size = 0;
            add(square, 0, 0);
            for (int from = 0; answer == NOT && from < size && from < MOST; from++) {
                floor.load(reached[from]);
                for (int n = 0; answer == NOT && n < WHOS * FIGURES; n++) {
                    int code = PER_WHO * (n / FIGURES) + n % FIGURES;
                    if (floor.plan(code)) {
                        comeTo(floor.planned(), from, code);
                    }
                }
            }
        }

        /** HOME is looked for first, since it may come as one more than the most. */
        private void comeTo(long square, int from, int code) {
            if (square == home) {
                answer = trace(from, code);
            } else if (!Packed.isAmong(square, reached, size) && !add(square, from, code)) {
                answer = LONG;
            }
        }

        private boolean add(long square, int from, int code) {
            if (size >= MOST) {
                return false;
            }
            reached[size] = square;
            cameFrom[size] = from;
            cameBy[size] = code;
            size++;
            return true;
        }

        /** Writes down the calls that led to a SQUARE, and the last one: how many. */
        private int trace(int last, int lastCode) {
            int length = 1;
            for (int i = last; i > 0 && length < MOST; i = cameFrom[i]) {
                length++;
            }
            int place = length - 1;
            codes[place] = lastCode;
            for (int i = last; i > 0 && place > 0; i = cameFrom[i]) {
                place--;
                codes[place] = cameBy[i];
            }
            return length;
        }
    }
}

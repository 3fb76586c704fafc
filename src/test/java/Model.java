import java.util.ArrayList;
import java.util.HashSet;
import java.util.LinkedHashMap;
import java.util.List;
import java.util.Map;
import java.util.Set;
import java.util.TreeMap;
import java.util.regex.Matcher;
import java.util.regex.Pattern;

/**
 * The document told a second time, in another way than the class tells it: no packed numbers, no
 * kept squares, no parser; THE DANCE is a list of words that is danced anew from HOME for each answer.
 */
final class Model {
    static final List<String> WHO =
            List.of("all", "heads", "sides", "men", "ladies", "centers", "outers", "belles", "beaus");
    static final List<String> FIGURES = List.of("forward", "back", "left", "right", "around", "pass", "star",
            "box", "slide", "trade", "fold", "ring");
    private static final Pattern TEXT = pattern();

    record Pos(int x, int y, int f) {
        Pos gone(int way) {
            return switch (Math.floorMod(way, 4)) {
                case 0 -> new Pos(x, y + 1, f);
                case 1 -> new Pos(x + 1, y, f);
                case 2 -> new Pos(x, y - 1, f);
                default -> new Pos(x - 1, y, f);
            };
        }

        Pos turned(int rights) {
            return new Pos(x, y, Math.floorMod(f + rights, 4));
        }

        boolean sameCell(Pos p) {
            return x == p.x && y == p.y;
        }

        boolean onFloor() {
            return 0 <= x && x <= 3 && 0 <= y && y <= 3;
        }

        boolean inner() {
            return 1 <= x && x <= 2 && 1 <= y && y <= 2;
        }
    }

    record Call(String who, String figure) {
        int code() {
            return 100 * WHO.indexOf(who) + FIGURES.indexOf(figure);
        }
    }

    /** What comes of a call: a new square, or who falls and why. */
    record Outcome(List<Pos> square, int doers, List<Integer> falls, int alone) {
        boolean fell() {
            return alone != 0 || !falls.isEmpty();
        }
    }

    static final List<Pos> HOME = List.of(new Pos(1, 0, 0), new Pos(2, 0, 0), new Pos(3, 1, 3), new Pos(3, 2, 3),
            new Pos(2, 3, 2), new Pos(1, 3, 2), new Pos(0, 2, 1), new Pos(0, 1, 1));

    private String tape = "";
    private List<Call> dance = new ArrayList<>();
    private List<Call> undone = new ArrayList<>();
    private List<Call> image = null;
    private Outcome latest = null;
    private final Map<String, Integer> danced = new TreeMap<>();

    private static Pattern pattern() {
        String call = "((" + String.join("|", WHO) + ") )?(" + String.join("|", FIGURES) + ")( [234])?";
        return Pattern.compile(call + "(," + call + ")*");
    }

    // ---- squares

    static int whoIsOn(List<Pos> sq, Pos cell) {
        for (int d = 0; d < 8; d++) {
            if (sq.get(d).sameCell(cell)) {
                return d;
            }
        }
        return -1;
    }

    static int whoIs(List<Pos> sq, int d, int rights) {
        Pos p = sq.get(d);
        return whoIsOn(sq, p.gone(p.f + rights));
    }

    static Set<Integer> meantBy(List<Pos> sq, String who) {
        Set<Integer> meant = new HashSet<>();
        for (int d = 0; d < 8; d++) {
            int left = whoIs(sq, d, -1);
            int right = whoIs(sq, d, 1);
            boolean is = switch (who) {
                case "all" -> true;
                case "heads" -> Set.of(0, 1, 4, 5).contains(d);
                case "sides" -> Set.of(2, 3, 6, 7).contains(d);
                case "men" -> Set.of(0, 2, 4, 6).contains(d);
                case "ladies" -> Set.of(1, 3, 5, 7).contains(d);
                case "centers" -> sq.get(d).inner();
                case "outers" -> !sq.get(d).inner();
                case "belles" -> left >= 0 && sq.get(left).f == sq.get(d).f;
                case "beaus" -> right >= 0 && sq.get(right).f == sq.get(d).f;
                default -> throw new IllegalStateException(who);
            };
            if (is) {
                meant.add(d);
            }
        }
        return meant;
    }

    static List<int[]> pairs(List<Pos> sq, Set<Integer> meant, String figure) {
        boolean facing = Set.of("pass", "star", "box").contains(figure);
        Set<Integer> left = new HashSet<>(meant);
        List<int[]> pairs = new ArrayList<>();
        for (int d = 0; d < 8; d++) {
            for (int rights : facing ? new int[] {0} : new int[] {1, 3}) {
                int e = whoIs(sq, d, rights);
                if (!left.contains(d) || !left.contains(e)) {
                    continue;
                }
                boolean opposite = Math.floorMod(sq.get(d).f - sq.get(e).f, 4) == 2;
                boolean same = sq.get(d).f == sq.get(e).f;
                boolean mixed = (d + e) % 2 == 1;
                if (facing ? opposite && (mixed || !figure.equals("star")) : same) {
                    left.remove(d);
                    left.remove(e);
                    pairs.add(rights == 3 ? new int[] {e, d} : new int[] {d, e});
                }
            }
        }
        return pairs;
    }

    static Outcome outcome(List<Pos> sq, Call call) {
        Set<Integer> meant = meantBy(sq, call.who);
        if (meant.isEmpty()) {
            return new Outcome(null, 0, List.of(), 4);
        }
        List<Pos> next = new ArrayList<>(sq);
        int doers = meant.size();
        switch (call.figure) {
            case "forward" -> meant.forEach(d -> next.set(d, sq.get(d).gone(sq.get(d).f)));
            case "back" -> meant.forEach(d -> next.set(d, sq.get(d).gone(sq.get(d).f + 2)));
            case "left" -> meant.forEach(d -> next.set(d, sq.get(d).turned(3)));
            case "right" -> meant.forEach(d -> next.set(d, sq.get(d).turned(1)));
            case "around" -> meant.forEach(d -> next.set(d, sq.get(d).turned(2)));
            case "ring" -> {
                for (int i = 0; i < 8; i++) {
                    int d = whoIsOn(sq, HOME.get(i));
                    if (d < 0 || doers < 8) {
                        return new Outcome(null, 0, List.of(), 5);
                    }
                    next.set(d, HOME.get((i + 1) % 8));
                }
            }
            default -> {
                List<int[]> pairs = pairs(sq, meant, call.figure);
                doers = pairs.size();
                if (doers == 0) {
                    return new Outcome(null, 0, List.of(), 4);
                }
                pairs.forEach(p -> dancePair(sq, next, p[0], p[1], call.figure));
            }
        }
        boolean change = Set.of("pass", "star", "box", "slide", "trade").contains(call.figure);
        List<Integer> falls = change ? List.of() : falls(sq, next);
        return new Outcome(next, doers, falls, 0);
    }

    private static void dancePair(List<Pos> sq, List<Pos> next, int a, int b, String figure) {
        Pos p = sq.get(a);
        Pos q = sq.get(b);
        if (figure.equals("fold")) {
            Pos to = p.gone(p.f);
            next.set(b, new Pos(to.x, to.y, q.turned(2).f));
            return;
        }
        int turnA = 0;
        int turnB = 0;
        switch (figure) {
            case "star" -> {
                turnA = a % 2 == 0 ? 1 : -1;
                turnB = -turnA;
            }
            case "box" -> turnA = turnB = 1;
            case "trade" -> turnA = turnB = 2;
            default -> { }
        }
        next.set(a, new Pos(q.x, q.y, p.turned(turnA).f));
        next.set(b, new Pos(p.x, p.y, q.turned(turnB).f));
    }

    private static List<Integer> falls(List<Pos> sq, List<Pos> next) {
        List<Integer> falls = new ArrayList<>();
        for (int d = 0; d < 8; d++) {
            Pos to = next.get(d);
            if (to.sameCell(sq.get(d))) {
                continue;
            }
            int there = whoIsOn(sq, to);
            boolean stays = there >= 0 && next.get(there).sameCell(sq.get(there));
            boolean meets = there >= 0 && next.get(there).sameCell(sq.get(d));
            long goers = 0;
            for (int e = 0; e < 8; e++) {
                goers += next.get(e).sameCell(to) && !sq.get(e).sameCell(to) ? 1 : 0;
            }
            int why = !to.onFloor() ? 1 : stays || meets ? 2 : goers > 1 ? 3 : 0;
            if (why != 0) {
                falls.add(10 * d + why);
            }
        }
        return falls;
    }

    static List<Pos> quarter(List<Pos> sq, boolean renamed) {
        List<Pos> next = new ArrayList<>(sq);
        for (int d = 0; d < 8; d++) {
            Pos p = sq.get(d);
            next.set(renamed ? (d + 2) % 8 : d, new Pos(3 - p.y, p.x, (p.f + 3) % 4));
        }
        return next;
    }

    static int quartersTo(List<Pos> from, List<Pos> to, boolean renamed) {
        List<Pos> turning = from;
        for (int q = 0; q < 4; q++) {
            if (turning.equals(to)) {
                return q;
            }
            turning = quarter(turning, renamed);
        }
        return SquareCaller.NOT;
    }

    private static List<List<Pos>> passed(List<Call> calls) {
        List<List<Pos>> all = new ArrayList<>(List.of(HOME));
        for (Call c : calls) {
            all.add(outcome(all.get(all.size() - 1), c).square);
        }
        return all;
    }

    List<Pos> square() {
        List<List<Pos>> all = passed(dance);
        return all.get(all.size() - 1);
    }

    // ---- texts

    /** The FAULT of a text, or -1: by what a pattern can still go on with. */
    static int fault(String text) {
        if (TEXT.matcher(text).matches()) {
            return -1;
        }
        int p = 0;
        while (p < text.length() && goesOn(text.substring(0, p + 1))) {
            p++;
        }
        int start = p;
        int end = p;
        while (start > 0 && isLetter(text.charAt(start - 1))) {
            start--;
        }
        while (end < text.length() && isLetter(text.charAt(end))) {
            end++;
        }
        if (start == end) {
            return p;
        }
        String word = text.substring(start, end);
        boolean whole = end == p && (WHO.contains(word) || FIGURES.contains(word));
        return whole ? p : start;
    }

    private static boolean isLetter(char c) {
        return c >= 'a' && c <= 'z';
    }

    private static boolean goesOn(String head) {
        Matcher m = TEXT.matcher(head);
        return m.matches() || m.hitEnd();
    }

    static List<Call> calls(String text) {
        List<Call> calls = new ArrayList<>();
        for (String one : text.split(",")) {
            List<String> words = new ArrayList<>(List.of(one.split(" ")));
            String last = words.get(words.size() - 1);
            int times = 1;
            if (last.length() == 1) {
                times = Integer.parseInt(last);
                words.remove(words.size() - 1);
            }
            Call c = words.size() == 1 ? new Call("all", words.get(0)) : new Call(words.get(0), words.get(1));
            for (int i = 0; i < times; i++) {
                calls.add(c);
            }
        }
        return calls;
    }

    private String printed() {
        List<String> parts = new ArrayList<>();
        for (int i = 0; i < dance.size(); ) {
            Call c = dance.get(i);
            int n = 0;
            while (n < 4 && i < dance.size() && dance.get(i).equals(c)) {
                n++;
                i++;
            }
            parts.add((c.who.equals("all") ? "" : c.who + " ") + c.figure + (n > 1 ? " " + n : ""));
        }
        return String.join(",", parts);
    }

    private String drawn() {
        StringBuilder b = new StringBuilder();
        List<Pos> sq = square();
        for (int y = 3; y >= 0; y--) {
            for (int x = 0; x < 4; x++) {
                int d = whoIsOn(sq, new Pos(x, y, 0));
                b.append(d < 0 ? ".." : (d + 1) + "^>v<".substring(sq.get(d).f, sq.get(d).f + 1));
            }
            b.append('\n');
        }
        return b.toString();
    }

    private static int byteOf(String s, int i) {
        return i < -1 ? SquareCaller.BAD : i == -1 ? s.length() : i < s.length() ? s.charAt(i) : SquareCaller.NOT;
    }

    // ---- the face

    int feed(int letter) {
        if (letter < 32 || letter > 126) {
            return SquareCaller.BAD;
        }
        if (tape.length() == 120) {
            return SquareCaller.FULL;
        }
        tape += (char) letter;
        return tape.length();
    }

    int dance() {
        String text = tape;
        tape = "";
        int fault = fault(text);
        if (fault >= 0) {
            return -100 - fault;
        }
        List<Call> calls = calls(text);
        if (dance.size() + calls.size() > 200) {
            return SquareCaller.FULL;
        }
        List<Pos> sq = square();
        int n = 0;
        for (Call c : calls) {
            latest = outcome(sq, c);
            if (latest.fell()) {
                return n;
            }
            sq = latest.square;
            dance.add(c);
            undone.clear();
            danced.merge(c.figure, 1, Integer::sum);
            n++;
        }
        return n;
    }

    int fall(int what) {
        List<Integer> falls = latest == null ? List.of() : latest.falls;
        if (what < -1) {
            return SquareCaller.BAD;
        }
        if (what == -1) {
            return latest == null ? 0 : latest.alone;
        }
        if (what == 0) {
            return falls.size();
        }
        return what <= falls.size() ? falls.get(what - 1) : SquareCaller.NOT;
    }

    int would() {
        String text = tape;
        tape = "";
        int fault = fault(text);
        if (fault >= 0) {
            return -100 - fault;
        }
        List<Call> calls = calls(text);
        if (calls.size() > 1) {
            return SquareCaller.BAD;
        }
        Outcome o = outcome(square(), calls.get(0));
        return o.fell() ? SquareCaller.NOT : o.doers;
    }

    int undo() {
        if (dance.isEmpty()) {
            return SquareCaller.STATE;
        }
        undone.add(dance.remove(dance.size() - 1));
        return dance.size();
    }

    int redo() {
        if (undone.isEmpty()) {
            return SquareCaller.STATE;
        }
        Call c = undone.remove(undone.size() - 1);
        dance.add(c);
        danced.merge(c.figure, 1, Integer::sum);
        return dance.size();
    }

    int home() {
        int n = dance.size();
        dance.clear();
        undone.clear();
        return n;
    }

    int at(int dancer, int what) {
        if (dancer < 0 || dancer > 7 || what < 0 || what > 5) {
            return SquareCaller.BAD;
        }
        List<Pos> sq = square();
        Pos p = sq.get(dancer);
        if (what < 2) {
            return what == 0 ? 4 * p.y + p.x : p.f;
        }
        int other = whoIs(sq, dancer, Map.of(2, 0, 3, 1, 4, -1, 5, 2).get(what));
        return other < 0 ? SquareCaller.NOT : other;
    }

    int on(int cell) {
        if (cell < 0 || cell > 15) {
            return SquareCaller.BAD;
        }
        int d = whoIsOn(square(), new Pos(cell % 4, cell / 4, 0));
        return d < 0 ? SquareCaller.NOT : d;
    }

    int meant(int n) {
        return n < 0 || n > 8 ? SquareCaller.BAD
                : meantBy(square(), WHO.get(n)).stream().mapToInt(d -> 1 << d).sum();
    }

    int count(int what) {
        List<Pos> sq = square();
        int n = 0;
        for (int d = 0; d < 8; d++) {
            boolean is = switch (what) {
                case 0 -> sq.get(d).sameCell(HOME.get(d));
                case 1 -> sq.get(d).equals(HOME.get(d));
                case 2 -> d % 2 == 0 && whoIs(sq, d, 1) == d + 1 && sq.get(d).f == sq.get(d + 1).f;
                default -> false;
            };
            n += is ? 1 : 0;
        }
        return what < 0 || what > 2 ? SquareCaller.BAD : n;
    }

    int way(int i) {
        if (i < -1) {
            return SquareCaller.BAD;
        }
        Object found = wayHome(square());
        if (found instanceof Integer none) {
            return none;
        }
        List<?> codes = (List<?>) found;
        return i == -1 ? codes.size() : i < codes.size() ? (Integer) codes.get(i) : SquareCaller.NOT;
    }

    /** The codes of the way home, or NOT, or LONG. */
    static Object wayHome(List<Pos> start) {
        Map<List<Pos>, List<Integer>> ways = new LinkedHashMap<>();
        List<List<Pos>> order = new ArrayList<>(List.of(start));
        ways.put(start, List.of());
        for (int k = 0; k < order.size() && !ways.containsKey(HOME); k++) {
            for (String who : WHO) {
                for (String figure : FIGURES) {
                    Call c = new Call(who, figure);
                    Outcome o = outcome(order.get(k), c);
                    if (o.fell() || ways.containsKey(o.square) || ways.containsKey(HOME)) {
                        continue;
                    }
                    if (order.size() == 250 && !o.square.equals(HOME)) {
                        return SquareCaller.LONG;
                    }
                    List<Integer> codes = new ArrayList<>(ways.get(order.get(k)));
                    codes.add(c.code());
                    ways.put(o.square, codes);
                    order.add(o.square);
                }
            }
        }
        return ways.containsKey(HOME) ? ways.get(HOME) : (Object) SquareCaller.NOT;
    }

    int round() {
        String text = tape;
        tape = "";
        int fault = fault(text);
        if (fault >= 0) {
            return -100 - fault;
        }
        List<Pos> sq = square();
        for (int n = 1; n <= 100; n++) {
            for (Call c : calls(text)) {
                Outcome o = outcome(sq, c);
                if (o.fell()) {
                    return SquareCaller.NOT;
                }
                sq = o.square;
            }
            if (sq.equals(square())) {
                return n;
            }
        }
        return SquareCaller.NOT;
    }

    int alike(int sort) {
        if (sort != 0 && sort != 1) {
            return SquareCaller.BAD;
        }
        if (image == null) {
            return SquareCaller.STATE;
        }
        List<List<Pos>> then = passed(image);
        return quartersTo(then.get(then.size() - 1), square(), sort == 0);
    }

    int squares(int sort) {
        if (sort < 0 || sort > 2) {
            return SquareCaller.BAD;
        }
        List<List<Pos>> unlike = new ArrayList<>();
        for (List<Pos> sq : passed(dance)) {
            boolean is = sort == 0 ? unlike.contains(sq)
                    : unlike.stream().anyMatch(u -> quartersTo(u, sq, sort == 1) >= 0);
            if (!is) {
                unlike.add(sq);
            }
        }
        return unlike.size();
    }

    int text(int i) {
        return byteOf(printed(), i);
    }

    int picture(int i) {
        return byteOf(drawn(), i);
    }

    int call(int i) {
        return i < -1 ? SquareCaller.BAD : i == -1 ? dance.size()
                : i < dance.size() ? dance.get(i).code() : SquareCaller.NOT;
    }

    int danced(int figure) {
        return figure < 0 || figure > 11 ? SquareCaller.BAD : danced.getOrDefault(FIGURES.get(figure), 0);
    }

    int image() {
        image = new ArrayList<>(dance);
        return dance.size();
    }

    int back() {
        if (image == null) {
            return SquareCaller.STATE;
        }
        dance = new ArrayList<>(image);
        undone.clear();
        return dance.size();
    }
}

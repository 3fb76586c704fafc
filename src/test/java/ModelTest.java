import java.util.List;
import java.util.Random;

/** Long runs of calls, made from fixed seeds, on the class and on the model: both answer the same. */
public final class ModelTest {
    private static final int RUNS = 1500;
    private static final int CALLS = 512;

    private final Random random;
    private final SquareCaller x = new SquareCaller();
    private final Model m = new Model();
    private final long seed;
    private final StringBuilder log = new StringBuilder();
    private int calls = 0;

    private ModelTest(long seed) {
        this.seed = seed;
        this.random = new Random(seed);
    }

    public static void main(String[] args) {
        int runs = args.length > 0 ? Integer.parseInt(args[0]) : RUNS;
        int from = args.length > 1 ? Integer.parseInt(args[1]) : 0;
        for (long seed = from; seed < from + runs; seed++) {
            if (!new ModelTest(seed).run()) {
                System.exit(1);
            }
        }
        System.out.println(runs + " runs answered as the model does");
    }

    private boolean run() {
        while (calls <= CALLS - 2) {
            if (!step()) {
                System.out.println("seed " + seed + ":" + log);
                return false;
            }
        }
        return true;
    }

    private boolean same(String call, int got, int want) {
        calls++;
        log.append(' ').append(call).append(" = ").append(got);
        if (got != want) {
            log.append(", due is ").append(want);
        }
        return got == want;
    }

    private boolean step() {
        int kind = random.nextInt(100);
        if (kind < 45) {
            return feedText() && same("dance()", x.dance(), m.dance()) && falls();
        } else if (kind < 50) {
            return feedText() && same("would()", x.would(), m.would());
        } else if (kind < 54) {
            return feedText() && same("round()", x.round(), m.round());
        } else if (kind < 60) {
            return same("undo()", x.undo(), m.undo());
        } else if (kind < 64) {
            return same("redo()", x.redo(), m.redo());
        } else if (kind < 65) {
            return same("home()", x.home(), m.home());
        } else if (kind < 67) {
            return same("image()", x.image(), m.image());
        } else if (kind < 69) {
            return same("back()", x.back(), m.back());
        }
        return question();
    }

    private boolean falls() {
        int what = random.nextInt(12) - 2;
        return same("fall(" + what + ")", x.fall(what), m.fall(what));
    }

    private boolean question() {
        int i = random.nextInt(12) - 2;
        int j = random.nextInt(8) - 1;
        int far = random.nextInt(60) - 2;
        switch (random.nextInt(12)) {
            case 0: return same("at(" + i + ", " + j + ")", x.at(i, j), m.at(i, j));
            case 1: return same("on(" + (i + j) + ")", x.on(i + j), m.on(i + j));
            case 2: return same("meant(" + i + ")", x.meant(i), m.meant(i));
            case 3: return same("count(" + (j - 1) + ")", x.count(j - 1), m.count(j - 1));
            case 4: {
                int k = random.nextInt(5) - 2;
                return same("way(" + k + ")", x.way(k), m.way(k));
            }
            case 5: return same("alike(" + (j / 2) + ")", x.alike(j / 2), m.alike(j / 2));
            case 6: return same("squares(" + (j / 2) + ")", x.squares(j / 2), m.squares(j / 2));
            case 7: return same("text(" + far + ")", x.text(far), m.text(far));
            case 8: return same("picture(" + far + ")", x.picture(far), m.picture(far));
            case 9: return same("call(" + far + ")", x.call(far), m.call(far));
            case 10: return same("text(-1)", x.text(-1), m.text(-1));
            default: return same("danced(" + (i + 1) + ")", x.danced(i + 1), m.danced(i + 1));
        }
    }

    /** Feeds as much of a text as leaves two calls to an object of which no more is promised. */
    private boolean feedText() {
        String text = text();
        int most = Math.min(text.length(), CALLS - 2 - calls);
        for (int i = 0; i < most; i++) {
            if (!same("feed('" + text.charAt(i) + "')", x.feed(text.charAt(i)), m.feed(text.charAt(i)))) {
                return false;
            }
        }
        return true;
    }

    private String text() {
        StringBuilder b = new StringBuilder();
        List<Model.Pos> square = m.square();
        int n = random.nextInt(8) == 0 ? random.nextInt(30) : random.nextInt(3) + 1;
        for (int i = 0; i < n; i++) {
            b.append(i > 0 ? "," : "").append(oneCall(square));
        }
        if (random.nextInt(12) == 0) {
            spoil(b);
        }
        return b.toString();
    }

    private String oneCall(List<Model.Pos> square) {
        Model.Call call = anyCall();
        // most calls fall on most squares: without some choice the runs would stay near HOME
        for (int tries = random.nextInt(12); tries > 0 && Model.outcome(square, call).fell(); tries--) {
            call = anyCall();
        }
        boolean isShort = call.who().equals("all") && random.nextInt(4) != 0;
        String times = random.nextInt(6) == 0 ? " " + (2 + random.nextInt(3)) : "";
        return (isShort ? "" : call.who() + " ") + call.figure() + times;
    }

    private Model.Call anyCall() {
        String who = random.nextInt(4) == 0 ? "all" : Model.WHO.get(random.nextInt(9));
        return new Model.Call(who, Model.FIGURES.get(random.nextInt(12)));
    }

    private void spoil(StringBuilder b) {
        String signs = "abcdefghijklmnopqrstuvwxyz 0123456789,,, ~AZ`{";
        int place = random.nextInt(b.length() + 1);
        char sign = signs.charAt(random.nextInt(signs.length()));
        switch (random.nextInt(4)) {
            case 0:
                b.insert(place, sign);
                break;
            case 1:
                b.setLength(place);
                break;
            case 2:
                b.insert(place, Model.WHO.get(random.nextInt(9)));
                break;
            default:
                if (place < b.length()) {
                    b.setCharAt(place, sign);
                }
                break;
        }
    }
}

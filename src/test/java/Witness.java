import java.util.function.Supplier;
import java.util.function.ToIntFunction;

/** Tells by answers alone whether a call that was refused has changed something. */
final class Witness {
    private Witness() {
    }

    /** An object with all that can change by mistake: falls, an image, calls undone; THE TAPE is empty. */
    static SquareCaller busy() {
        SquareCaller x = Due.after("heads forward,left 2");
        x.image();
        Due.dance(x, "men right,sides around,ladies left");
        x.undo();
        x.undo();
        Due.dance(x, "back");
        return x;
    }

    /** The same with a TEXT on THE TAPE that wants one byte more. */
    static SquareCaller busyWithTape() {
        SquareCaller x = busy();
        Due.feed(x, "heads lef");
        return x;
    }

    /** An object whose DANCE has so many calls. */
    static SquareCaller withCalls(int calls) {
        SquareCaller x = new SquareCaller();
        int left = calls;
        while (left > 0) {
            StringBuilder text = new StringBuilder();
            while (left > 0 && text.length() < 112) {
                int times = Math.min(4, left);
                text.append(text.length() > 0 ? "," : "").append(times > 1 ? "left " + times : "left");
                left -= times;
            }
            Due.dance(x, text.toString());
        }
        return x;
    }

    /** A refused call leaves the object as one that never had it. */
    static void refused(Due due, String what, Supplier<SquareCaller> made, ToIntFunction<SquareCaller> call,
            int answer) {
        SquareCaller x = made.get();
        due.is(what, call.applyAsInt(x), answer);
        due.is(what + ": what it leaves", all(x), all(made.get()));
    }

    /** A call that empties THE TAPE leaves the object as one that was never fed, and nothing else is changed. */
    static void empties(Due due, String what, Supplier<SquareCaller> made, String text,
            ToIntFunction<SquareCaller> call, int answer) {
        SquareCaller x = made.get();
        Due.feed(x, text);
        due.is(what, call.applyAsInt(x), answer);
        due.is(what + ": what it leaves", all(x), all(made.get()));
    }

    /** Everything that matters, in a row of less than 140 calls; the object is used up by it. */
    static String all(SquareCaller x) {
        StringBuilder b = new StringBuilder();
        b.append("falls ").append(Due.falls(x)).append(" danced");
        for (int figure = 0; figure < 12; figure++) {
            b.append(' ').append(x.danced(figure));
        }
        dance(b, x);
        b.append(" squares ").append(x.squares(0)).append(' ').append(x.squares(1)).append(' ').append(x.squares(2));
        b.append(" alike ").append(x.alike(0)).append(' ').append(x.alike(1)).append(" way ").append(x.way(-1));
        b.append(" redo ").append(x.redo()).append(' ').append(x.redo()).append(' ').append(x.redo());
        dance(b, x);
        b.append(" tape ").append(x.feed('t')).append(' ').append(x.dance());
        dance(b, x);
        b.append(" undo ").append(x.undo());
        b.append(" back ").append(x.back());
        dance(b, x);
        return b.append(" home ").append(x.home()).toString();
    }

    private static void dance(StringBuilder b, SquareCaller x) {
        int calls = x.call(-1);
        b.append(" calls ").append(calls);
        for (int i = Math.max(0, calls - 6); i < calls; i++) {
            b.append(' ').append(x.call(i));
        }
        b.append(" text ").append(x.text(-1)).append(" at ");
        for (int d = 0; d < 8; d++) {
            b.append(x.at(d, 0) + 100 * x.at(d, 1)).append(' ');
        }
    }
}

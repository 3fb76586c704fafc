import java.lang.management.ManagementFactory;

/** The calls make nothing in memory: all rows are made with the object. */
public final class RoomTest {
    private static final Due due = new Due();

    public static void main(String[] args) {
        com.sun.management.ThreadMXBean meter =
                (com.sun.management.ThreadMXBean) ManagementFactory.getThreadMXBean();
        char[] text = "heads forward,pass,left 3,centers slide,men around".toCharArray();
        use(new SquareCaller(), text);
        SquareCaller x = new SquareCaller();
        meter.getCurrentThreadAllocatedBytes();
        long before = meter.getCurrentThreadAllocatedBytes();
        use(x, text);
        long made = meter.getCurrentThreadAllocatedBytes() - before;
        due.is("room: bytes made by all calls together, in thousands", (int) (made / 1000), 0);
        due.end("RoomTest");
    }

    private static void use(SquareCaller x, char[] text) {
        for (int i = 0; i < 4; i++) {
            feed(x, text);
            x.dance();
            feed(x, text);
            x.round();
            feed(x, text);
            x.would();
            x.way(-1);
            x.way(0);
            x.undo();
            x.way(-1);
            x.redo();
            x.image();
            x.alike(i % 2);
            x.squares(0);
            x.squares(1);
            x.squares(2);
            x.text(-1);
            x.text(20);
            x.picture(20);
            x.at(i, 2);
            x.on(i);
            x.meant(7);
            x.count(2);
            x.fall(0);
            x.call(0);
            x.danced(1);
            x.back();
        }
        x.home();
    }

    private static void feed(SquareCaller x, char[] text) {
        for (char sign : text) {
            x.feed(sign);
        }
    }
}

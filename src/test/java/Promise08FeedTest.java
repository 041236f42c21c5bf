/** feed: a byte, 0 .. 255, is collected, at most 3,000; false for none such, or no room. */
public final class Promise08FeedTest {
    public static void main(String[] args) {
        Check check = new Check("Promise08FeedTest");
        bytesAndWhatIsNone(check);
        behindTaken(check);
        refusedIsNotCollected(check);
        fromTheStartAfterReading(check);
        noRoom(check);
        check.end();
    }

    private static void bytesAndWhatIsNone(Check check) {
        BlockSound x = new BlockSound();
        check.due("feed(0)", x.feed(0), true);
        check.due("feed(255)", x.feed(255), true);
        check.due("feed(-1)", x.feed(-1), false);
        check.due("feed(256)", x.feed(256), false);
        check.due("feed of the least int", x.feed(Integer.MIN_VALUE), false);
        check.due("feed of the greatest int", x.feed(Integer.MAX_VALUE), false);
        check.due("count(3)", x.count(3), 2);
    }

    private static void behindTaken(Check check) {
        BlockSound x = new BlockSound();
        int size = x.write();
        x.take();
        check.due("feed behind what was taken", x.feed(1), true);
        check.due("count(3)", x.count(3), size + 1);
        check.due("read()", x.read(), -1 - 8 * size);
    }

    /** What is no byte leaves no gap among those that are. */
    private static void refusedIsNotCollected(Check check) {
        BlockSound x = new BlockSound();
        for (int b : Bits.head(1, 1, 1).block(0, 0, 1).end().bytes()) {
            check.due("feed(256)", x.feed(256), false);
            check.due("feed(" + b + ")", x.feed(b), true);
            check.due("feed(" + (b - 256) + ")", x.feed(b - 256), false);
        }
        check.due("read()", x.read(), 1);
        check.due("value(0)", x.value(0), 1);
    }

    private static void fromTheStartAfterReading(Check check) {
        BlockSound x = new BlockSound();
        x.feed(83);
        check.due("read() of one byte", x.read(), -1 - 8);
        x.feed(66);
        check.due("read() of the other alone", x.read(), -1);
        check.due("read() of nothing", x.read(), -1);
        check.due("a whole stream", Bits.head(1, 1, 0).end().readBy(x), 0);
        check.due("channels", x.count(5), 1);
    }

    /** So many calls that the answers are free by the document; here they keep to the limit still. */
    private static void noRoom(Check check) {
        BlockSound x = new BlockSound();
        for (int i = 0; i < 3000; i++) {
            check.due("feed " + i, x.feed(0), true);
        }
        check.due("feed without room", x.feed(0), false);
        check.due("count(3)", x.count(3), 3000);
        check.due("read()", x.read(), -1);
        check.due("feed with room again", x.feed(0), true);
    }
}

/** feed: a byte, 0 .. 255, is collected, at most 3,000; false for none such, or no room. */
public final class Promise08FeedTest {
    public static void main(String[] args) {
        Check check = new Check("Promise08FeedTest");
        BlockSound x = new BlockSound();
        check.due("feed(0)", x.feed(0), true);
        check.due("feed(255)", x.feed(255), true);
        check.due("feed(-1)", x.feed(-1), false);
        check.due("feed(256)", x.feed(256), false);
        check.due("feed of the least int", x.feed(Integer.MIN_VALUE), false);
        check.due("feed of the greatest int", x.feed(Integer.MAX_VALUE), false);
        check.due("count(3)", x.count(3), 2);
        behindTaken(check);
        noRoom(check);
        check.end();
    }

    private static void behindTaken(Check check) {
        BlockSound x = new BlockSound();
        int size = x.write();
        x.take();
        check.due("feed behind what was taken", x.feed(1), true);
        check.due("count(3)", x.count(3), size + 1);
        check.due("read()", x.read(), -1 - 8 * size);
    }

    /** So many calls that the answers are free by the document; here they keep to the limit still. */
    private static void noRoom(Check check) {
        BlockSound x = new BlockSound();
        for (int i = 0; i < 3000; i++) {
            check.due("feed " + i, x.feed(0), true);
        }
        check.due("feed without room", x.feed(0), false);
        check.due("count(3)", x.count(3), 3000);
        check.due("read()", x.read(), -1);
        check.due("feed with room again", x.feed(0), true);
    }
}

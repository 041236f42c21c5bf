/** count: what there is of each kind; BAD for another number. */
public final class Promise13CountTest {
    private static Check check;

    public static void main(String[] args) {
        check = new Check("Promise13CountTest");
        afterEachCall();
        whatIsNone();
        zeroChannelsBefore();
        most();
        check.end();
    }

    private static void afterEachCall() {
        BlockSound x = new BlockSound();
        due(x, "new", 0, 0, 0, 0, 0, 0);
        x.settings(2, 2);
        for (int t = 0; t < 7; t++) {
            x.sample(t);
        }
        due(x, "told", 7, 0, 0, 0, 0, 0);
        int size = x.write();
        due(x, "written", 7, size, 4, 0, 0, 0);
        x.take();
        due(x, "taken", 7, size, 4, size, 0, 0);
        x.read();
        due(x, "read", 7, size, 4, 0, 6, 2);
        x.feed(83);
        x.feed(256);
        due(x, "fed", 7, size, 4, 1, 6, 2);
        x.read();
        due(x, "read wrong", 7, size, 4, 0, 6, 2);
        x.settings(1, 1);
        due(x, "settings", 0, size, 4, 0, 6, 2);
        x.write();
        due(x, "written again", 0, 5, 0, 0, 6, 2);
        x.take();
        x.read();
        due(x, "read again", 0, 5, 0, 0, 0, 1);
    }

    private static void whatIsNone() {
        BlockSound x = Told.of(1, 1, 1);
        for (int what : new int[] {Integer.MIN_VALUE, -1, 6, 7, Integer.MAX_VALUE}) {
            check.due("count(" + what + ")", x.count(what), BlockSound.BAD);
        }
        check.due("BAD", BlockSound.BAD, -1);
    }

    /** 5 is 0 before the first right stream, also one without samples. */
    private static void zeroChannelsBefore() {
        BlockSound x = new BlockSound();
        x.settings(2, 2);
        x.feed(84);
        x.read();
        check.due("channels after a wrong stream", x.count(5), 0);
        Bits.head(2, 2, 0).end().readBy(x);
        check.due("channels of a stream without samples", x.count(5), 2);
        check.due("its samples", x.count(4), 0);
        x.read();
        check.due("channels after a wrong stream since", x.count(5), 2);
    }

    private static void most() {
        BlockSound x = Told.of(1, 1, new int[400]);
        x.sample(1);
        int size = x.write();
        x.take();
        due(x, "400 samples", 400, size, 400, size, 0, 0);
        x.read();
        due(x, "400 samples read", 400, size, 400, 0, 400, 1);
    }

    private static void due(BlockSound x, String when, int... counts) {
        for (int what = 0; what < counts.length; what++) {
            check.due(when + ": count(" + what + ")", x.count(what), counts[what]);
        }
    }
}

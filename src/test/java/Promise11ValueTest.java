/** value: sample i of what was read, as they come by turns; NONE for none such. */
public final class Promise11ValueTest {
    public static void main(String[] args) {
        Check check = new Check("Promise11ValueTest");
        byTurns(check);
        samplesThatAreNone(check);
        nothingRead(check);
        fewerThanBefore(check);
        check.end();
    }

    private static int turn(int t) {
        return t % 2 == 0 ? 100 * t : -32768 + t;
    }

    /** Eleven samples of two channels in blocks of two, of which ten are written and read. */
    private static BlockSound readTen() {
        BlockSound x = new BlockSound();
        x.settings(2, 2);
        for (int t = 0; t < 11; t++) {
            x.sample(turn(t));
        }
        x.write();
        x.take();
        x.read();
        return x;
    }

    private static void byTurns(Check check) {
        BlockSound x = readTen();
        x.settings(1, 1);
        for (int t = 0; t < 10; t++) {
            check.due("value(" + t + ")", x.value(t), turn(t));
        }
    }

    private static void samplesThatAreNone(Check check) {
        BlockSound x = readTen();
        check.due("value(9)", x.value(9), turn(9));
        check.due("value(10)", x.value(10), BlockSound.NONE);
        check.due("value(-1)", x.value(-1), BlockSound.NONE);
        check.due("value of the least int", x.value(Integer.MIN_VALUE), BlockSound.NONE);
        check.due("value of the greatest int", x.value(Integer.MAX_VALUE), BlockSound.NONE);
        check.due("NONE", BlockSound.NONE, -99999);
    }

    private static void nothingRead(Check check) {
        BlockSound x = new BlockSound();
        x.sample(3);
        x.write();
        x.take();
        check.due("value(0) before reading", x.value(0), BlockSound.NONE);
        x.feed(83);
        x.read();
        check.due("value(0) after a wrong stream", x.value(0), BlockSound.NONE);
        check.due("a stream without samples", Bits.head(1, 1, 0).end().readBy(x), 0);
        check.due("value(0) of no samples", x.value(0), BlockSound.NONE);
    }

    private static void fewerThanBefore(Check check) {
        BlockSound x = new BlockSound();
        Bits.head(1, 3, 3).block(0, 3, 1, 2, 3).end().readBy(x);
        check.due("value(2) of three", x.value(2), 3);
        check.due("value(3) of three", x.value(3), BlockSound.NONE);
        Bits.head(1, 3, 1).block(0, 3, 4).end().readBy(x);
        check.due("value(0) of one", x.value(0), 4);
        check.due("value(1) of one", x.value(1), BlockSound.NONE);
        check.due("value(2) of one", x.value(2), BlockSound.NONE);
        Bits.head(1, 3, 0).end().readBy(x);
        check.due("value(0) of none", x.value(0), BlockSound.NONE);
    }
}

/** at: byte i of what was written, 0 .. 255; BAD for none such. */
public final class Promise05AtTest {
    public static void main(String[] args) {
        Check check = new Check("Promise05AtTest");
        ordinary(check);
        beforeWriting(check);
        bytesThatAreNone(check);
        afterOtherCalls(check);
        bytesAboveHalf(check);
        behindAShorterStream(check);
        check.end();
    }

    private static BlockSound one() {
        return Told.of(1, 16, -32768);
    }

    private static void ordinary(Check check) {
        BlockSound x = one();
        int[] due = Bits.head(1, 16, 1).block(0, 15, -32768).end().bytes();
        check.due("write()", x.write(), due.length);
        for (int i = 0; i < due.length; i++) {
            check.due("at(" + i + ")", x.at(i), due[i]);
        }
    }

    private static void beforeWriting(Check check) {
        BlockSound x = new BlockSound();
        check.due("at(0) of a new object", x.at(0), BlockSound.BAD);
        x.sample(1);
        x.feed(83);
        check.due("at(0) of what was only told", x.at(0), BlockSound.BAD);
    }

    private static void bytesThatAreNone(Check check) {
        BlockSound x = one();
        int size = x.write();
        check.due("at(-1)", x.at(-1), BlockSound.BAD);
        check.due("at(size)", x.at(size), BlockSound.BAD);
        check.due("at the least int", x.at(Integer.MIN_VALUE), BlockSound.BAD);
        check.due("at the greatest int", x.at(Integer.MAX_VALUE), BlockSound.BAD);
    }

    private static void afterOtherCalls(Check check) {
        BlockSound x = one();
        int last = x.write() - 1;
        int due = x.at(last);
        x.sample(1);
        x.feed(7);
        x.read();
        x.take();
        x.read();
        check.due("the first byte after other calls", x.at(0), 83);
        check.due("the last byte after other calls", x.at(last), due);
    }

    private static void bytesAboveHalf(Check check) {
        BlockSound x = new BlockSound();
        x.write();
        check.due("at(2), a byte above 127", x.at(2), 168);
    }

    private static void behindAShorterStream(Check check) {
        BlockSound x = Told.of(1, 1, 1, 2, 3, 4, 5, 6);
        int longer = x.write();
        x.settings(1, 1);
        int shorter = x.write();
        check.due("it is shorter", shorter < longer, true);
        check.due("the last byte", x.at(shorter - 1) >= 0, true);
        check.due("the first byte behind it", x.at(shorter), BlockSound.BAD);
        check.due("the last byte of before", x.at(longer - 1), BlockSound.BAD);
    }
}

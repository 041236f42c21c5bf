/** at: byte i of what was written, 0 .. 255; BAD for none such. */
public final class Promise05AtTest {
    public static void main(String[] args) {
        Check check = new Check("Promise05AtTest");
        BlockSound x = new BlockSound();
        check.due("at(0) before", x.at(0), BlockSound.BAD);
        x.sample(-32768);
        check.due("at(0) before writing", x.at(0), BlockSound.BAD);
        int size = x.write();
        int[] due = Bits.head(1, 16, 1).block(0, 15, -32768).end().bytes();
        check.due("write()", size, due.length);
        for (int i = 0; i < size; i++) {
            check.due("at(" + i + ")", x.at(i), due[i]);
        }
        check.due("at(-1)", x.at(-1), BlockSound.BAD);
        check.due("at(size)", x.at(size), BlockSound.BAD);
        check.due("at the least int", x.at(Integer.MIN_VALUE), BlockSound.BAD);
        check.due("at the greatest int", x.at(Integer.MAX_VALUE), BlockSound.BAD);
        x.sample(1);
        x.feed(7);
        x.read();
        check.due("at(0) after other calls", x.at(0), 83);
        bytesAboveHalf(check);
        check.end();
    }

    private static void bytesAboveHalf(Check check) {
        BlockSound x = new BlockSound();
        x.write();
        check.due("at(2), a byte above 127", x.at(2), 168);
    }
}

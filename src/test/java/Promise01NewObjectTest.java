/** A new object: one channel, BLOCK 16; no samples, no bytes. */
public final class Promise01NewObjectTest {
    public static void main(String[] args) {
        Check check = new Check("Promise01NewObjectTest");
        nothingIsThere(check);
        oneChannelOfSixteen(check);
        objectsAreApart(check);
        check.end();
    }

    private static void nothingIsThere(Check check) {
        BlockSound x = new BlockSound();
        for (int what = 0; what <= 5; what++) {
            check.due("count(" + what + ")", x.count(what), 0);
        }
        check.due("at(0)", x.at(0), BlockSound.BAD);
        check.due("block(0, 0)", x.block(0, 0), BlockSound.BAD);
        check.due("cost(0, 0, 0)", x.cost(0, 0, 0), BlockSound.BAD);
        check.due("value(0)", x.value(0), BlockSound.NONE);
        check.due("same()", x.same(), false);
        check.due("take()", x.take(), 0);
        check.due("read()", x.read(), -1);
    }

    private static void oneChannelOfSixteen(Check check) {
        BlockSound x = new BlockSound();
        for (int t = 0; t < 33; t++) {
            x.sample(t);
        }
        x.write();
        check.due("blocks of 33 samples", x.count(2), 3);
        for (int i = 0; i < 3; i++) {
            check.due("channel of block " + i, x.block(i, 0), 0);
        }
        int[] start = Bits.head(1, 16, 33).bytes();
        for (int i = 0; i < 3; i++) {
            check.due("at(" + i + ")", x.at(i), start[i]);
        }
    }

    private static void objectsAreApart(Check check) {
        BlockSound x = new BlockSound();
        BlockSound other = new BlockSound();
        x.sample(4);
        x.write();
        x.take();
        check.due("samples of the other", other.count(0), 0);
        check.due("bytes of the other", other.count(1), 0);
        check.due("bytes collected by the other", other.count(3), 0);
    }
}

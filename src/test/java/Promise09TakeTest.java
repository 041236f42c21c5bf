/** take: what was written is collected, in the place of what was: how many bytes. */
public final class Promise09TakeTest {
    public static void main(String[] args) {
        Check check = new Check("Promise09TakeTest");
        inThePlace(check);
        nothingWritten(check);
        aCopy(check);
        longest(check);
        inThePlaceOfShorterAndLonger(check);
        check.end();
    }

    private static void inThePlace(Check check) {
        BlockSound x = new BlockSound();
        x.sample(77);
        int size = x.write();
        for (int i = 0; i < 20; i++) {
            x.feed(i);
        }
        check.due("take()", x.take(), size);
        check.due("count(3)", x.count(3), size);
        check.due("take() again", x.take(), size);
        check.due("read()", x.read(), 1);
        check.due("value(0)", x.value(0), 77);
        check.due("what was written stays", x.count(1), size);
        check.due("take() once more", x.take(), size);
    }

    private static void nothingWritten(Check check) {
        BlockSound x = new BlockSound();
        x.sample(5);
        x.feed(83);
        check.due("take() of nothing", x.take(), 0);
        check.due("count(3)", x.count(3), 0);
        check.due("read()", x.read(), -1);
    }

    private static void aCopy(Check check) {
        BlockSound x = new BlockSound();
        x.sample(5);
        x.write();
        x.take();
        x.sample(6);
        x.write();
        check.due("read() of what was taken", x.read(), 1);
        check.due("same()", x.same(), false);
        x.take();
        check.due("read() of what was written later", x.read(), 2);
        check.due("same()", x.same(), true);
    }

    private static void inThePlaceOfShorterAndLonger(Check check) {
        BlockSound x = Told.of(1, 1, 3, 1, 4);
        int size = x.write();
        x.feed(1);
        check.due("take() for one byte", x.take(), size);
        check.due("read()", x.read(), 3);
        for (int i = 0; i < 100; i++) {
            x.feed(255);
        }
        check.due("take() for a hundred", x.take(), size);
        check.due("count(3)", x.count(3), size);
        check.due("read() of it", x.read(), 3);
        check.due("read() of nothing", x.read(), -1);
    }

    private static void longest(Check check) {
        BlockSound x = new BlockSound();
        x.settings(2, 1);
        int[] jumps = {32767, 32767, -32768, -32768};
        for (int t = 0; t < 500; t++) {
            x.sample(jumps[t * t % 7 % 4]);
        }
        int size = x.write();
        check.due("take()", x.take(), Math.min(size, 3000));
        check.due("read()", x.read(), 500);
        check.due("same()", x.same(), true);
    }
}

/** write: writes what was told, cut to what all channels have; samples stay. */
public final class Promise04WriteTest {
    private static Check check;

    public static void main(String[] args) {
        check = new Check("Promise04WriteTest");
        emptyStreams();
        shortestWay();
        meanWhereItMay();
        meansOfNegativeSums();
        cutToWholeTurns();
        blocksByTurns();
        writtenAnew();
        afterARefusedCall();
        mostOfOneChannel();
        check.end();
    }

    private static void written(String what, BlockSound x, Bits due) {
        Streams.written(check, what, x, due);
    }

    private static void emptyStreams() {
        written("nothing", new BlockSound(), Bits.head(1, 16, 0).end());
        written("nothing, two channels", Told.of(2, 64), Bits.head(2, 64, 0).end());
        written("one of two", Told.of(2, 1, 7), Bits.head(2, 1, 0).end());
    }

    private static void shortestWay() {
        // 1 and 2 for function 0, 1 and 1 for function 1, 1 and 0 for function 2, 1 and -1 for 3
        written("2 x - y", Told.of(1, 2, 1, 2), Bits.head(1, 2, 2).block(2, 0, 1, 0).end());
        // one sample: all functions leave the same, and k 0, 1 and 2 are as long (3 bits each)
        written("least function, least k", Told.of(1, 1, 1), Bits.head(1, 1, 1).block(0, 0, 1).end());
        // 9 takes 6 bits with k 1, and 5 with k 2 and 3
        written("least k", Told.of(1, 1, -5), Bits.head(1, 1, 1).block(0, 2, -5).end());
        // the second block: 1 and 1 for function 0, 0 and 0 for functions 1 and 2
        written("the lesser of 1 and 2", Told.of(1, 2, 1, 1, 1, 1),
                Bits.head(1, 2, 4).block(1, 0, 1, 0).block(1, 0, 0, 0).end());
        written("one great sample", Told.of(1, 1, -32768), Bits.head(1, 1, 1).block(0, 15, -32768).end());
        // 384 takes 11 bits with k 7 and 10 with k 8, but k itself 4 and 5
        written("k itself counts", Told.of(1, 1, 192), Bits.head(1, 1, 1).block(0, 7, 192).end());
        written("x", Told.of(1, 3, 9, 9, 9), Bits.head(1, 3, 3).block(1, 2, 9, 0, 0).end());
    }

    private static void meanWhereItMay() {
        written("silence", Told.of(1, 2, 0, 0, 0), Bits.head(1, 2, 3).u(2, 4).u(2, 4).end());
        // means 8, 8, 8, 8, then 4 may be taken
        written("the mean", Told.of(1, 1, 8, 8, 8, 8, 8),
                Bits.head(1, 1, 5).block(0, 3, 8).block(1, 0, 0).block(1, 0, 0).block(1, 0, 0)
                        .u(2, 4).end());
    }

    private static void meansOfNegativeSums() {
        // the mean of -1 alone: (-1 + 2) / 4 is 0; of -3 alone: (-3 + 2) / 4 is -1, rounded down
        written("-1, 0", Told.of(1, 1, -1, 0), Bits.head(1, 1, 2).block(0, 0, -1).u(2, 4).end());
        written("-3, -1", Told.of(1, 1, -3, -1), Bits.head(1, 1, 2).block(0, 1, -3).u(2, 4).end());
        // a block of -2 and -1: (-3 + 1) / 2 is -1; then (-1 + 2) / 4 is 0
        written("-2, -1, 0", Told.of(1, 2, -2, -1, 0),
                Bits.head(1, 2, 3).block(0, 1, -2, -1).u(2, 4).end());
        // a block of -7, -7, -8: (-22 + 1) / 3 is -7; then (-7 + 2) / 4 is -2, rounded down
        BlockSound x = Told.of(1, 3, -7, -7, -8, -2);
        x.write();
        check.due("the mean behind -7, -7, -8", x.block(1, 1), 4);
    }

    private static void cutToWholeTurns() {
        BlockSound x = Told.of(2, 2, 5, -5, 0);
        Bits one = Bits.head(2, 2, 1).block(0, 2, 5).block(0, 2, -5);
        written("three of two channels", x, one.end());
        check.due("samples stay", x.count(0), 3);
        check.due("the fourth", x.sample(0), 4);
        written("four of two channels", x,
                Bits.head(2, 2, 2).block(0, 2, 5, 0).block(0, 1, -5, 0).end());
    }

    private static void blocksByTurns() {
        // 3 of each channel in blocks of 2: the last ones of what is left, one each
        BlockSound x = Told.of(2, 2, 0, 1, 0, 1, 0, 1);
        written("blocks by turns", x,
                Bits.head(2, 2, 3).u(2, 4).block(1, 0, 1, 0).u(2, 4).block(1, 0, 0).end());
        check.due("blocks", x.count(2), 4);
    }

    private static void writtenAnew() {
        BlockSound x = Told.of(1, 4, 1, 2, 3, 4, 5);
        int first = x.write();
        check.due("write() again", x.write(), first);
        x.settings(1, 16);
        written("after settings", x, Bits.head(1, 16, 0).end());
        check.due("a byte of before", x.at(5), BlockSound.BAD);
        check.due("blocks of before", x.count(2), 0);
        check.due("block(0, 0)", x.block(0, 0), BlockSound.BAD);
    }

    private static void afterARefusedCall() {
        BlockSound x = Told.of(1, 2, 1, 2);
        x.settings(2, 65);
        x.sample(32768);
        x.block(0, 9);
        written("after refused calls", x, Bits.head(1, 2, 2).block(2, 0, 1, 0).end());
    }

    /** 400 samples, each a block, and each block as long as it can be. */
    private static void mostOfOneChannel() {
        BlockSound x = new BlockSound();
        x.settings(1, 1);
        for (int t = 0; t < 400; t++) {
            x.sample(t / 4 % 2 == 0 ? 32767 : -32768);
        }
        int size = x.write();
        check.due("blocks", x.count(2), 400);
        check.due("the last byte is there", x.at(size - 1) >= 0, true);
        check.due("none behind", x.at(size), BlockSound.BAD);
        check.due("take()", x.take(), size);
        check.due("read()", x.read(), 400);
        check.due("same()", x.same(), true);
    }
}

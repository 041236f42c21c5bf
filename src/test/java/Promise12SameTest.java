/** same: whether the samples told, cut as for writing, are those that were read, in as many channels. */
public final class Promise12SameTest {
    public static void main(String[] args) {
        Check check = new Check("Promise12SameTest");
        nothing(check);
        ordinary(check);
        channels(check);
        cut(check);
        cutToNothing(check);
        oneSampleDiffers(check);
        fewerThanBefore(check);
        check.end();
    }

    private static void nothing(Check check) {
        BlockSound x = new BlockSound();
        check.due("before reading there are 0 channels", x.same(), false);
        x.read();
        check.due("after a wrong stream too", x.same(), false);
        x.write();
        x.take();
        x.read();
        check.due("no samples, one channel", x.same(), true);
        x.settings(1, 5);
        check.due("another BLOCK is no difference", x.same(), true);
        x.settings(2, 5);
        check.due("no samples, two channels", x.same(), false);
    }

    private static void ordinary(Check check) {
        BlockSound x = new BlockSound();
        for (int t = 0; t < 20; t++) {
            x.sample(t);
        }
        x.write();
        x.take();
        check.due("written, not read", x.same(), false);
        x.read();
        check.due("read", x.same(), true);
        x.feed(1);
        x.read();
        check.due("a wrong stream leaves it", x.same(), true);
        x.sample(1);
        check.due("one more", x.same(), false);
        x.settings(1, 16);
        check.due("none", x.same(), false);
        for (int t = 0; t < 19; t++) {
            x.sample(t);
            check.due("the first " + t, x.same(), false);
        }
        x.sample(18);
        check.due("the last one differs", x.same(), false);
        x.settings(1, 3);
        for (int t = 0; t < 20; t++) {
            x.sample(t);
        }
        check.due("told again", x.same(), true);
    }

    private static void channels(Check check) {
        BlockSound x = new BlockSound();
        x.sample(1);
        x.sample(2);
        x.write();
        x.take();
        x.read();
        x.settings(2, 16);
        x.sample(1);
        x.sample(2);
        check.due("the same samples of two channels", x.same(), false);
        x.write();
        x.take();
        x.read();
        check.due("read with two channels", x.same(), true);
    }

    private static void cut(Check check) {
        BlockSound x = new BlockSound();
        x.settings(2, 4);
        x.sample(1);
        x.sample(2);
        x.sample(3);
        x.write();
        x.take();
        check.due("read()", x.read(), 2);
        check.due("three of two channels", x.same(), true);
        x.sample(4);
        check.due("four of two channels", x.same(), false);
    }

    /** One sample of two channels is none, and so are those of a stream without samples. */
    private static void cutToNothing(Check check) {
        BlockSound x = Told.of(2, 4, 7);
        check.due("before reading", x.same(), false);
        Bits.head(2, 9, 0).end().readBy(x);
        check.due("cut to no samples", x.same(), true);
        Bits.head(1, 9, 0).end().readBy(x);
        check.due("of one channel", x.same(), false);
        Bits.head(2, 9, 1).block(0, 3, 7).u(2, 4).end().readBy(x);
        check.due("one of each channel", x.same(), false);
        x.sample(0);
        check.due("the other one told", x.same(), true);
    }

    private static void oneSampleDiffers(Check check) {
        for (int other = 0; other < 5; other++) {
            int[] samples = {1, 2, 3, 4, 5};
            samples[other]++;
            BlockSound x = Told.of(1, 5, samples);
            Bits.head(1, 5, 5).block(0, 3, 1, 2, 3, 4, 5).end().readBy(x);
            check.due("sample " + other + " differs", x.same(), false);
        }
    }

    /** What is left in rows of before does not count. */
    private static void fewerThanBefore(Check check) {
        BlockSound x = Told.of(1, 5, 1, 2, 3);
        x.write();
        x.take();
        x.read();
        x.settings(1, 5);
        x.sample(1);
        x.sample(2);
        check.due("two of three", x.same(), false);
        Bits.head(1, 5, 2).block(0, 3, 1, 2).end().readBy(x);
        check.due("two of two", x.same(), true);
    }
}

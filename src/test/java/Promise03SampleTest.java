/** sample: one more sample, how many there are; BAD for none such, or beyond 400 for each channel. */
public final class Promise03SampleTest {
    public static void main(String[] args) {
        Check check = new Check("Promise03SampleTest");
        limits(check);
        fourHundred(check);
        twoChannelsHoldMore(check);
        refusedIsNotTold(check);
        refusedKeepsTheTurn(check);
        check.end();
    }

    private static void limits(Check check) {
        BlockSound x = new BlockSound();
        check.due("sample(-32768)", x.sample(-32768), 1);
        check.due("sample(32767)", x.sample(32767), 2);
        check.due("sample(32768)", x.sample(32768), BlockSound.BAD);
        check.due("sample(-32769)", x.sample(-32769), BlockSound.BAD);
        check.due("sample of the least int", x.sample(Integer.MIN_VALUE), BlockSound.BAD);
        check.due("sample of the greatest int", x.sample(Integer.MAX_VALUE), BlockSound.BAD);
        check.due("count(0)", x.count(0), 2);
        check.due("sample(0)", x.sample(0), 3);
    }

    private static void fourHundred(Check check) {
        BlockSound x = new BlockSound();
        for (int t = 1; t <= 400; t++) {
            check.due("sample " + t, x.sample(t % 9), t);
        }
        check.due("sample 401", x.sample(0), BlockSound.BAD);
        check.due("a wrong one then", x.sample(40000), BlockSound.BAD);
        check.due("count(0)", x.count(0), 400);
        x.write();
        x.take();
        check.due("read()", x.read(), 400);
        check.due("same()", x.same(), true);
    }

    private static void twoChannelsHoldMore(Check check) {
        BlockSound x = new BlockSound();
        x.settings(2, 64);
        for (int t = 1; t <= 500; t++) {
            check.due("sample " + t + " of two channels", x.sample(t), t);
        }
        x.write();
        x.take();
        check.due("read()", x.read(), 500);
        check.due("same()", x.same(), true);
    }

    /** The 401st sample is not there when it is written. */
    private static void refusedIsNotTold(Check check) {
        BlockSound x = Told.of(1, 64, new int[400]);
        check.due("sample 401", x.sample(1), BlockSound.BAD);
        Streams.written(check, "400 samples", x,
                Bits.head(1, 64, 400).raw("0100".repeat(7)).end());
    }

    /** A sample that is none takes no channel's place. */
    private static void refusedKeepsTheTurn(Check check) {
        BlockSound x = Told.of(2, 1, 1);
        check.due("sample(32768)", x.sample(32768), BlockSound.BAD);
        check.due("sample(-1)", x.sample(-1), 2);
        Streams.written(check, "two samples", x,
                Bits.head(2, 1, 1).block(0, 0, 1).block(0, 0, -1).end());
    }
}

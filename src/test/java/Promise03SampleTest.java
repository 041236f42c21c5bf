/** sample: one more sample, how many there are; BAD for none such, or beyond 400 for each channel. */
public final class Promise03SampleTest {
    public static void main(String[] args) {
        Check check = new Check("Promise03SampleTest");
        limits(check);
        fourHundred(check);
        twoChannelsHoldMore(check);
        check.end();
    }

    private static void limits(Check check) {
        BlockSound x = new BlockSound();
        check.due("sample(-32768)", x.sample(-32768), 1);
        check.due("sample(32767)", x.sample(32767), 2);
        check.due("sample(32768)", x.sample(32768), BlockSound.BAD);
        check.due("sample(-32769)", x.sample(-32769), BlockSound.BAD);
        check.due("sample of the least int", x.sample(Integer.MIN_VALUE), BlockSound.BAD);
        check.due("sample of the greatest int", x.sample(Integer.MAX_VALUE), BlockSound.BAD);
        check.due("count(0)", x.count(0), 2);
        check.due("sample(0)", x.sample(0), 3);
    }

    private static void fourHundred(Check check) {
        BlockSound x = new BlockSound();
        for (int t = 1; t <= 400; t++) {
            check.due("sample " + t, x.sample(t % 9), t);
        }
        check.due("sample 401", x.sample(0), BlockSound.BAD);
        check.due("a wrong one then", x.sample(40000), BlockSound.BAD);
        check.due("count(0)", x.count(0), 400);
        x.write();
        x.take();
        check.due("read()", x.read(), 400);
        check.due("same()", x.same(), true);
    }

    private static void twoChannelsHoldMore(Check check) {
        BlockSound x = new BlockSound();
        x.settings(2, 64);
        for (int t = 1; t <= 500; t++) {
            check.due("sample " + t + " of two channels", x.sample(t), t);
        }
        x.write();
        x.take();
        check.due("read()", x.read(), 500);
        check.due("same()", x.same(), true);
    }
}

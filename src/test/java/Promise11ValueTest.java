/** value: sample i of what was read, as they come by turns; NONE for none such. */
public final class Promise11ValueTest {
    public static void main(String[] args) {
        Check check = new Check("Promise11ValueTest");
        BlockSound x = new BlockSound();
        x.sample(3);
        x.write();
        check.due("value(0) before reading", x.value(0), BlockSound.NONE);
        x.settings(2, 2);
        for (int t = 0; t < 11; t++) {
            x.sample(t % 2 == 0 ? 100 * t : -32768 + t);
        }
        x.write();
        x.take();
        check.due("read()", x.read(), 10);
        x.settings(1, 1);
        for (int t = 0; t < 10; t++) {
            check.due("value(" + t + ")", x.value(t), t % 2 == 0 ? 100 * t : -32768 + t);
        }
        check.due("value(10)", x.value(10), BlockSound.NONE);
        check.due("value(-1)", x.value(-1), BlockSound.NONE);
        check.due("value of the least int", x.value(Integer.MIN_VALUE), BlockSound.NONE);
        check.due("value of the greatest int", x.value(Integer.MAX_VALUE), BlockSound.NONE);
        check.due("NONE", BlockSound.NONE, -99999);
        check.end();
    }
}

/** An object is used for 512 calls: the last of them answers as any before, whatever it is. */
public final class LastCallTest {
    private static final int CALLS = 512;
    private static Check check;

    public static void main(String[] args) {
        check = new Check("LastCallTest");
        write();
        read();
        feed();
        asking();
        check.end();
    }

    /** Settings, 510 samples of two channels, and the writing of them. */
    private static void write() {
        BlockSound x = Told.of(2, 64, new int[CALLS - 2]);
        Bits due = Bits.head(2, 64, 255).raw("0100".repeat(8)).end();
        check.due("write() as the last call", x.write(), due.bytes().length);
        BlockSound full = Told.of(1, 64, new int[400]);
        for (int call = 401; call < CALLS - 1; call++) {
            check.due("sample " + call, full.sample(0), BlockSound.BAD);
        }
        check.due("sample as the last call", full.sample(1), BlockSound.BAD);
    }

    /** 511 bytes, and the reading of them: a number that takes up nearly all. */
    private static void read() {
        Bits long511 = Bits.head(1, 1, 1).u(2, 0).u(3, 0).s(0, 2020).end();
        check.due("bytes of the long stream", long511.bytes().length, CALLS - 1);
        BlockSound x = new BlockSound();
        check.due("read() as the last call", long511.readBy(x), 1);
        BlockSound y = Told.of(1, 1, new int[400]);
        int size = y.write();
        check.due("bytes of silence", size, (16 + 3 + 5 + 13 + 1600 + 4 + 7) / 8);
        y.take();
        for (int call = 404; call < CALLS; call++) {
            y.count(0);
        }
        check.due("read() of 400 as the last call", y.read(), 400);
    }

    private static void feed() {
        BlockSound x = new BlockSound();
        for (int call = 1; call < CALLS; call++) {
            check.due("feed " + call, x.feed(call % 256), true);
        }
        check.due("count(3) as the last call", x.count(3), CALLS - 1);
    }

    private static void asking() {
        BlockSound x = Told.of(1, 16, 4, 5);
        x.write();
        x.take();
        x.read();
        for (int call = 7; call < CALLS; call++) {
            check.due("value(1) again", x.value(1), 5);
        }
        check.due("same() as the last call", x.same(), true);
    }
}

/** settings: how many channels, and BLOCK; samples told are gone; false for none such. */
public final class Promise02SettingsTest {
    public static void main(String[] args) {
        Check check = new Check("Promise02SettingsTest");
        limits(check);
        refusedChangesNothing(check);
        onlySamplesAreGone(check);
        roomAgainWhereItWasFull(check);
        fewerChannelsThanBefore(check);
        check.end();
    }

    private static void limits(Check check) {
        int[] edges = {Integer.MIN_VALUE, -1, 0, 1, 2, 3, 16, 63, 64, 65, Integer.MAX_VALUE};
        for (int channels : edges) {
            for (int block : edges) {
                boolean due = (channels == 1 || channels == 2) && block >= 1 && block <= 64;
                BlockSound x = new BlockSound();
                check.due("settings(" + channels + ", " + block + ")", x.settings(channels, block), due);
            }
        }
    }

    private static void refusedChangesNothing(Check check) {
        BlockSound x = new BlockSound();
        x.settings(2, 3);
        for (int t = 0; t < 8; t++) {
            x.sample(t);
        }
        check.due("settings(3, 1)", x.settings(3, 1), false);
        check.due("settings(1, 0)", x.settings(1, 0), false);
        check.due("settings(1, 65)", x.settings(1, 65), false);
        check.due("samples after it", x.count(0), 8);
        x.write();
        check.due("blocks after it", x.count(2), 4);
        check.due("channel of block 1", x.block(1, 0), 1);
    }

    private static void onlySamplesAreGone(Check check) {
        BlockSound x = new BlockSound();
        x.settings(2, 1);
        x.sample(100);
        x.sample(-100);
        int bytes = x.write();
        int last = x.at(bytes - 1);
        int bits = x.block(1, 3);
        int cost = x.cost(1, 2, 7);
        x.take();
        x.read();
        x.feed(1);
        check.due("settings(2, 1) again", x.settings(2, 1), true);
        check.due("samples are gone", x.count(0), 0);
        check.due("settings(1, 64)", x.settings(1, 64), true);
        check.due("bytes stay", x.count(1), bytes);
        check.due("the last byte stays", x.at(bytes - 1), last);
        check.due("blocks stay", x.count(2), 2);
        check.due("their channels stay", x.block(1, 0), 1);
        check.due("their bits stay", x.block(1, 3), bits);
        check.due("their costs stay", x.cost(1, 2, 7), cost);
        check.due("bytes collected stay", x.count(3), 1);
        check.due("samples read stay", x.value(1), -100);
        check.due("channels read stay", x.count(5), 2);
    }

    private static void roomAgainWhereItWasFull(Check check) {
        BlockSound x = Told.of(1, 16, new int[400]);
        check.due("full", x.sample(1), BlockSound.BAD);
        check.due("settings(1, 65)", x.settings(1, 65), false);
        check.due("full still", x.sample(1), BlockSound.BAD);
        check.due("settings(1, 16)", x.settings(1, 16), true);
        check.due("room again", x.sample(1), 1);
        check.due("count(0)", x.count(0), 1);
    }

    /** More than one channel may hold were told: none of them is left over. */
    private static void fewerChannelsThanBefore(Check check) {
        BlockSound x = Told.of(2, 64, new int[450]);
        check.due("count(0) of two channels", x.count(0), 450);
        check.due("settings(1, 1)", x.settings(1, 1), true);
        check.due("count(0)", x.count(0), 0);
        check.due("the first sample", x.sample(-3), 1);
        Streams.written(check, "one channel", x, Bits.head(1, 1, 1).block(0, 1, -3).end());
    }
}

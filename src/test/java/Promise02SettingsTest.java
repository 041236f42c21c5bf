/** settings: how many channels, and BLOCK; samples told are gone; false for none such. */
public final class Promise02SettingsTest {
    public static void main(String[] args) {
        Check check = new Check("Promise02SettingsTest");
        limits(check);
        refusedChangesNothing(check);
        onlySamplesAreGone(check);
        check.end();
    }

    private static void limits(Check check) {
        int[] edges = {Integer.MIN_VALUE, -1, 0, 1, 2, 3, 16, 63, 64, 65, Integer.MAX_VALUE};
        for (int channels : edges) {
            for (int block : edges) {
                boolean due = (channels == 1 || channels == 2) && block >= 1 && block <= 64;
                BlockSound x = new BlockSound();
                check.due("settings(" + channels + ", " + block + ")", x.settings(channels, block), due);
            }
        }
    }

    private static void refusedChangesNothing(Check check) {
        BlockSound x = new BlockSound();
        x.settings(2, 3);
        for (int t = 0; t < 8; t++) {
            x.sample(t);
        }
        check.due("settings(3, 1)", x.settings(3, 1), false);
        check.due("settings(1, 0)", x.settings(1, 0), false);
        check.due("settings(1, 65)", x.settings(1, 65), false);
        check.due("samples after it", x.count(0), 8);
        x.write();
        check.due("blocks after it", x.count(2), 4);
        check.due("channel of block 1", x.block(1, 0), 1);
    }

    private static void onlySamplesAreGone(Check check) {
        BlockSound x = new BlockSound();
        x.settings(2, 1);
        x.sample(100);
        x.sample(-100);
        int bytes = x.write();
        int last = x.at(bytes - 1);
        int bits = x.block(1, 3);
        int cost = x.cost(1, 2, 7);
        x.take();
        x.read();
        x.feed(1);
        check.due("settings(2, 1) again", x.settings(2, 1), true);
        check.due("samples are gone", x.count(0), 0);
        check.due("settings(1, 64)", x.settings(1, 64), true);
        check.due("bytes stay", x.count(1), bytes);
        check.due("the last byte stays", x.at(bytes - 1), last);
        check.due("blocks stay", x.count(2), 2);
        check.due("their channels stay", x.block(1, 0), 1);
        check.due("their bits stay", x.block(1, 3), bits);
        check.due("their costs stay", x.cost(1, 2, 7), cost);
        check.due("bytes collected stay", x.count(3), 1);
        check.due("samples read stay", x.value(1), -100);
        check.due("channels read stay", x.count(5), 2);
    }
}

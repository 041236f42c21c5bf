/** Checks of a whole stream: that it is written so, is read so, or is wrong at a bit. */
final class Streams {
    private Streams() {
    }

    static void written(Check check, String what, BlockSound x, Bits due) {
        int[] bytes = due.bytes();
        check.due(what + ": write()", x.write(), bytes.length);
        check.due(what + ": count(1)", x.count(1), bytes.length);
        for (int i = 0; i < bytes.length; i++) {
            check.due(what + ": at(" + i + ")", x.at(i), bytes[i]);
        }
        check.due(what + ": at(" + bytes.length + ")", x.at(bytes.length), BlockSound.BAD);
    }

    static void right(Check check, String what, Bits bits, int... samples) {
        BlockSound x = new BlockSound();
        check.due(what, bits.readBy(x), samples.length);
        for (int i = 0; i < samples.length; i++) {
            check.due(what + ": value(" + i + ")", x.value(i), samples[i]);
        }
        check.due(what + ": samples read", x.count(4), samples.length);
        check.due(what + ": what was collected is gone", x.count(3), 0);
    }

    static void wrong(Check check, String what, Bits bits, int bit) {
        BlockSound x = new BlockSound();
        check.due(what, bits.readBy(x), -1 - bit);
        check.due(what + ": what was collected is gone", x.count(3), 0);
        check.due(what + ": nothing was read", x.count(5), 0);
    }
}

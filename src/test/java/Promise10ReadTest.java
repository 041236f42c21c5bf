/** read: what was collected is read, and is gone; or the bit at which it is wrong. */
public final class Promise10ReadTest {
    private static Check check;

    public static void main(String[] args) {
        check = new Check("Promise10ReadTest");
        rightStreams();
        wrongStart();
        wrongNumbers();
        wrongSamples();
        wrongEnd();
        endsTooEarly();
        whatWasReadStays();
        check.end();
    }

    private static void right(String what, Bits bits, int... samples) {
        Streams.right(check, what, bits, samples);
    }

    private static void wrong(String what, Bits bits, int bit) {
        Streams.wrong(check, what, bits, bit);
    }

    private static void rightStreams() {
        right("nothing", Bits.head(2, 64, 0).end());
        right("function 0", Bits.head(1, 2, 2).block(0, 5, 4, -4).end(), 4, -4);
        right("function 1", Bits.head(1, 3, 3).block(1, 0, 4, -4, 1).end(), 4, 0, 1);
        right("function 2", Bits.head(1, 3, 3).block(2, 15, 4, -4, 1).end(), 4, 4, 5);
        right("function 3", Bits.head(1, 4, 4).block(3, 8, 4, -4, 1, 0).end(), 4, 8, 13, 19);
        right("over blocks", Bits.head(1, 1, 3).block(2, 1, 4).block(2, 1, 1).block(3, 0, 1).end(),
                4, 9, 16);
        right("a long way", Bits.head(1, 1, 1).block(0, 0, 100).end(), 100);
        right("two channels", Bits.head(2, 2, 3)
                .block(1, 0, 1, 1).block(1, 0, -1, -1).block(1, 0, 1).block(1, 0, -1).end(),
                1, -1, 2, -2, 3, -3);
        right("the mean", Bits.head(1, 1, 6).block(0, 0, 8).u(2, 4).u(2, 4).u(2, 4).u(2, 4).u(2, 4)
                .end(), 8, 2, 3, 3, 4, 3);
        right("a mean below 0", Bits.head(1, 1, 3).block(0, 0, -7).u(2, 4).u(2, 4).end(), -7, -2, -2);
        right("a short last block", Bits.head(1, 2, 3).block(0, 3, 3, 4).block(0, 3, 0).end(), 3, 4, 1);
        right("the edges", Bits.head(1, 2, 2).block(1, 15, 32767, -65535).end(), 32767, -32768);
        int[] silence = new int[800];
        Bits most = Bits.head(2, 64, 400);
        for (int i = 0; i < 14; i++) {
            most.u(2, 4);
        }
        right("as many as there may be", most.end(), silence);
    }

    private static void wrongStart() {
        wrong("no byte", new Bits(), 0);
        wrong("the first byte", new Bits().plain(8, 84).plain(8, 66), 0);
        wrong("the first byte alone", new Bits().plain(8, 82), 0);
        wrong("the second byte", new Bits().plain(8, 83).plain(8, 67).plain(8, 0), 8);
        wrong("no second byte", new Bits().plain(8, 83), 8);
        wrong("no third byte", new Bits().plain(8, 83).plain(8, 66), 16);
    }

    private static void wrongNumbers() {
        wrong("0 channels", Bits.head(0, 16, 0).end(), 16);
        wrong("3 channels", Bits.head(3, 16, 0).end(), 16);
        wrong("BLOCK 0", Bits.head(1, 0, 0).end(), 19);
        wrong("BLOCK 65", Bits.head(2, 65, 0).end(), 19);
        wrong("n 401", Bits.head(1, 16, 401).end(), 25);
        Bits head = Bits.head(1, 2, 2);
        wrong("function 5", Bits.head(1, 2, 2).u(2, 5).u(3, 0).s(0, 0).s(0, 0).end(), head.length());
        wrong("k 16", Bits.head(1, 2, 2).block(1, 16, 0, 0).end(), head.length() + 3);
        wrong("k behind a wrong function", Bits.head(1, 2, 2).block(6, 16, 0, 0).end(), head.length());
        Bits before = Bits.head(2, 1, 1).block(1, 3, 7);
        wrong("function of the second channel",
                Bits.head(2, 1, 1).block(1, 3, 7).u(2, 7).end(), before.length());
    }

    private static void wrongSamples() {
        Bits first = Bits.head(1, 2, 2).u(2, 0).u(3, 15);
        wrong("above", Bits.head(1, 2, 2).block(0, 15, 32768, 0).end(), first.length());
        wrong("below", Bits.head(1, 2, 2).block(0, 15, -32769, 0).end(), first.length());
        Bits second = Bits.head(1, 2, 2).block(1, 15, 32767);
        wrong("above by x", Bits.head(1, 2, 2).block(1, 15, 32767, 1).end(), second.length());
        wrong("below by x", Bits.head(1, 2, 2).block(1, 15, -32768, -1).end(), second.length());
        Bits slope = Bits.head(1, 2, 2).block(2, 15, 20000);
        wrong("above by 2 x - y", Bits.head(1, 2, 2).block(2, 15, 20000, 0).end(), slope.length());
        // before the bytes end inside a later number
        wrong("above, and cut behind", Bits.head(1, 2, 2).block(0, 15, 32768), first.length());
    }

    private static void wrongEnd() {
        Bits head = Bits.head(1, 1, 0);
        wrong("4 for 5", Bits.head(1, 1, 0).u(2, 4), head.length());
        wrong("6 for 5", Bits.head(1, 1, 0).u(2, 6), head.length());
        wrong("a block too much", Bits.head(1, 1, 0).block(1, 0, 0).end(), head.length());
        Bits whole = Bits.head(1, 1, 0).end();
        for (int bit = whole.length(); bit < whole.filled().length(); bit++) {
            String zeros = "0".repeat(bit - whole.length());
            wrong("bit " + bit + " behind the end",
                    Bits.head(1, 1, 0).end().raw(zeros).raw("1"), bit);
            wrong("bit " + bit + " behind the end, and a byte",
                    new Bits().raw(Bits.head(1, 1, 0).end().raw(zeros).raw("1").filled()).plain(8, 1), bit);
        }
        for (int b : new int[] {0, 1, 128, 255}) {
            wrong("byte " + b + " too much",
                    new Bits().raw(whole.filled()).plain(8, b), whole.filled().length());
        }
        wrong("two bytes too much",
                new Bits().raw(whole.filled()).plain(16, 0), whole.filled().length());
        // 16 + 3 + 5 + 7 + 13 + 4 bits are a whole number of bytes
        Bits even = Bits.head(1, 1, 1).block(0, 0, -3).end();
        check.due("a stream without filling", even.length() % 8, 0);
        right("no filling", even, -3);
        wrong("no filling, and a byte", new Bits().raw(even.filled()).plain(8, 0), even.length());
    }

    private static void endsTooEarly() {
        Bits whole = Bits.head(2, 3, 4).block(0, 3, 40, -5, 6).block(3, 0, 1, 1, 1).u(2, 4)
                .block(2, 12, 9).end();
        String bits = whole.filled();
        for (int end = 0; end < bits.length(); end += 8) {
            wrong("cut at " + end, new Bits().raw(bits.substring(0, end)), end);
        }
        // a number that could not be possible any more is not yet there
        wrong("0s for the channels", new Bits().plain(16, 83 * 256 + 66).plain(16, 0), 32);
        wrong("0s for the end", new Bits().raw(Bits.head(1, 1, 0).filled()).plain(24, 0), 56);
    }

    private static void whatWasReadStays() {
        BlockSound x = new BlockSound();
        check.due("two channels", Bits.head(2, 2, 1).block(0, 0, 3).block(0, 0, -3).end().readBy(x), 2);
        int bit = Bits.head(1, 2, 2).block(0, 15, 1).length();
        Bits bad = Bits.head(1, 2, 2).block(0, 15, 1, 40000).end();
        check.due("a wrong stream", bad.readBy(x), -1 - bit);
        check.due("samples read", x.count(4), 2);
        check.due("channels read", x.count(5), 2);
        check.due("value(0)", x.value(0), 3);
        check.due("value(1)", x.value(1), -3);
        check.due("nothing collected", x.read(), -1);
        check.due("value(1) still", x.value(1), -3);
        check.due("a right stream", Bits.head(1, 2, 1).block(0, 15, 9).end().readBy(x), 1);
        check.due("value(0)", x.value(0), 9);
        check.due("value(1)", x.value(1), BlockSound.NONE);
        check.due("channels read", x.count(5), 1);
        check.due("means of before are gone",
                Bits.head(1, 1, 2).u(2, 4).u(2, 4).end().readBy(x), 2);
        check.due("value(0)", x.value(0), 0);
        check.due("value(1)", x.value(1), 0);
    }
}

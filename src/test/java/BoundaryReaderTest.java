/** The edges of what the reader takes, and the bit that it tells just beyond each of them. */
public final class BoundaryReaderTest {
    private static Check check;

    public static void main(String[] args) {
        check = new Check("BoundaryReaderTest");
        aWrongBitInTheFirstBytes();
        channelsFromOneToTwo();
        blockFromOneToSixtyFour();
        samplesFromNoneToFourHundred();
        functionsUpToFour();
        kUpToFifteen();
        theEndIsFive();
        samplesThatAreNone();
        samplesThatAreNoneInTheOtherChannel();
        samplesThatAreNoneInALaterBlock();
        theFirstOfTwoFaults();
        numbersFarTooGreat();
        endsTooEarly();
        endsInsideANumber();
        fillingBits();
        byteTooMuch();
        mostSamples();
        waysNoWriterTakes();
        check.end();
    }

    private static void right(String what, Bits bits, int... samples) {
        Streams.right(check, what, bits, samples);
    }

    private static void wrong(String what, Bits bits, int bit) {
        Streams.wrong(check, what, bits, bit);
    }

    /** Of a byte that is not possible the first bit, whichever bit of it differs. */
    private static void aWrongBitInTheFirstBytes() {
        String whole = Bits.head(1, 16, 0).end().filled();
        for (int bit = 0; bit < 16; bit++) {
            char turned = whole.charAt(bit) == '0' ? '1' : '0';
            Bits bits = new Bits().raw(whole.substring(0, bit) + turned + whole.substring(bit + 1));
            wrong("bit " + bit + " turned over", bits, bit / 8 * 8);
        }
        for (int b : new int[] {0, 82, 84, 255}) {
            wrong("first byte " + b + " alone", new Bits().plain(8, b), 0);
            wrong("second byte " + b, new Bits().plain(8, 83).plain(8, b), 8);
        }
        wrong("the bytes in the other order", new Bits().plain(8, 66).plain(8, 83), 0);
    }

    private static void channelsFromOneToTwo() {
        right("1 channel", Bits.head(1, 1, 1).block(0, 0, 1).end(), 1);
        right("2 channels", Bits.head(2, 1, 1).block(0, 0, 1).block(0, 0, 2).end(), 1, 2);
        for (int channels : new int[] {0, 3, 4, 7}) {
            wrong(channels + " channels", Bits.head(channels, 1, 0).end(), 16);
        }
    }

    private static void blockFromOneToSixtyFour() {
        right("BLOCK 1", Bits.head(1, 1, 2).u(2, 4).u(2, 4).end(), 0, 0);
        right("BLOCK 64", Bits.head(1, 64, 2).u(2, 4).end(), 0, 0);
        for (int block : new int[] {0, 65, 79, 80, 128}) {
            wrong("BLOCK " + block, Bits.head(1, block, 0).end(), 19);
            wrong("BLOCK " + block + " of two channels", Bits.head(2, block, 0).end(), 19);
        }
    }

    private static void samplesFromNoneToFourHundred() {
        right("no samples", Bits.head(1, 1, 0).end());
        right("no samples of two channels", Bits.head(2, 64, 0).end());
        Bits most = Bits.head(1, 64, 400);
        right("400 samples", most.raw("0100".repeat(7)).end(), new int[400]);
        for (int n : new int[] {401, 447, 448, 1000}) {
            wrong(n + " samples", Bits.head(1, 16, n).raw("0100".repeat(n / 16 + 1)).end(), 25);
        }
    }

    private static void functionsUpToFour() {
        int bit = Bits.head(1, 2, 2).length();
        for (int f = 0; f <= 3; f++) {
            right("function " + f, Bits.head(1, 2, 2).block(f, 0, 0, 0).end(), 0, 0);
        }
        right("function 4", Bits.head(1, 2, 2).u(2, 4).end(), 0, 0);
        for (int f : new int[] {5, 6, 7, 8, 12}) {
            wrong("function " + f, Bits.head(1, 2, 2).block(f, 0, 0, 0).end(), bit);
            wrong("function " + f + " without k", Bits.head(1, 2, 2).u(2, f).end(), bit);
        }
    }

    private static void kUpToFifteen() {
        for (int f = 0; f <= 3; f++) {
            int bit = Bits.head(1, 2, 2).u(2, f).length();
            for (int k = 0; k <= 15; k++) {
                right("k " + k, Bits.head(1, 2, 2).block(f, k, 0, 0).end(), 0, 0);
            }
            for (int k : new int[] {16, 17, 23, 24}) {
                wrong("k " + k, Bits.head(1, 2, 2).block(f, k, 0, 0).end(), bit);
            }
        }
    }

    private static void theEndIsFive() {
        for (int mark = 0; mark <= 12; mark++) {
            if (mark != 5) {
                wrong(mark + " for the end", Bits.head(1, 1, 0).u(2, mark), 31);
                wrong(mark + " for the end behind a block",
                        Bits.head(1, 1, 1).u(2, 4).u(2, mark), 35);
            }
        }
        wrong("a block behind the last one", Bits.head(1, 1, 1).u(2, 4).u(2, 4).end(), 35);
        wrong("the end before the last block", Bits.head(1, 1, 1).end(), 31);
    }

    /** For each function a first sample, and what would make the second one just too much. */
    private static void samplesThatAreNone() {
        int[] ahead = {0, 10000, 20000, 30000};
        for (int f = 0; f <= 3; f++) {
            int up = 32767 - ahead[f];
            int down = -32768 - ahead[f];
            int bit = Bits.head(1, 2, 2).block(f, 15, 10000).length();
            right("up to the edge by function " + f,
                    Bits.head(1, 2, 2).block(f, 15, 10000, up).end(), 10000, 32767);
            right("down to the edge by function " + f,
                    Bits.head(1, 2, 2).block(f, 15, 10000, down).end(), 10000, -32768);
            wrong("above by function " + f,
                    Bits.head(1, 2, 2).block(f, 15, 10000, up + 1).end(), bit);
            wrong("below by function " + f,
                    Bits.head(1, 2, 2).block(f, 15, 10000, down - 1).end(), bit);
        }
    }

    private static void samplesThatAreNoneInTheOtherChannel() {
        int bit = Bits.head(2, 1, 1).block(0, 15, 32767).u(2, 1).u(3, 15).length();
        right("the edge in channel 1",
                Bits.head(2, 1, 1).block(0, 15, 32767).block(1, 15, 32767).end(), 32767, 32767);
        wrong("above in channel 1",
                Bits.head(2, 1, 1).block(0, 15, 32767).block(1, 15, 32768).end(), bit);
        wrong("below in channel 1",
                Bits.head(2, 1, 1).block(0, 15, 32767).block(1, 15, -32769).end(), bit);
    }

    /** The mean of the block before counts for function 0: (32,767 + 2) / 4 is 8,192. */
    private static void samplesThatAreNoneInALaterBlock() {
        int bit = Bits.head(1, 1, 2).block(0, 15, 32767).u(2, 0).u(3, 15).length();
        right("up to the edge by the mean",
                Bits.head(1, 1, 2).block(0, 15, 32767).block(0, 15, 24575).end(), 32767, 32767);
        wrong("above by the mean",
                Bits.head(1, 1, 2).block(0, 15, 32767).block(0, 15, 24576).end(), bit);
        right("up to the edge by 2 x - y",
                Bits.head(1, 1, 2).block(0, 15, 16383).block(2, 15, 1).end(), 16383, 32767);
        wrong("above by 2 x - y",
                Bits.head(1, 1, 2).block(0, 15, 16384).block(2, 15, 0).end(), bit);
    }

    private static void theFirstOfTwoFaults() {
        wrong("channels and BLOCK", Bits.head(3, 0, 0).end(), 16);
        wrong("BLOCK and n", Bits.head(1, 65, 401).end(), 19);
        wrong("function and k", Bits.head(1, 1, 1).block(5, 16, 0).end(), 31);
        int bit = Bits.head(1, 2, 2).u(2, 0).u(3, 15).length();
        wrong("two samples that are none", Bits.head(1, 2, 2).block(0, 15, 40000, 40000).end(), bit);
        wrong("a sample, and no end", Bits.head(1, 2, 2).block(0, 15, 40000), bit);
        wrong("a sample, and a byte too much",
                Bits.head(1, 1, 1).block(0, 15, 40000).end().plain(24, 0), bit);
    }

    /** Numbers of some 3,900 0s, in each place of a stream. */
    private static void numbersFarTooGreat() {
        String zeros = "0".repeat(3900);
        String rest = "1".repeat(40);
        Bits[] before = {
            new Bits().plain(8, 83).plain(8, 66), new Bits().plain(8, 83).plain(8, 66).u(2, 1),
            new Bits().plain(8, 83).plain(8, 66).u(2, 1).u(4, 16), Bits.head(1, 1, 1),
            Bits.head(1, 1, 1).u(2, 0), Bits.head(1, 1, 1).u(2, 0).u(3, 15),
            Bits.head(1, 1, 1).u(2, 3).u(3, 7), Bits.head(1, 1, 0)
        };
        for (Bits bits : before) {
            int bit = bits.length();
            wrong("far too great at " + bit, bits.raw(zeros).raw(rest), bit);
        }
    }

    /** Cut behind each of its bytes, a stream is wrong at the bit behind the last. */
    private static void endsTooEarly() {
        Bits[] streams = {
            Bits.head(1, 16, 0).end(), Bits.head(2, 64, 400).raw("0100".repeat(14)).end(),
            Bits.head(1, 2, 3).block(3, 15, 10000, -32768).block(0, 0, 1).end(),
            Bits.head(1, 1, 1).block(0, 3, 8).end(), Bits.head(1, 1, 1).block(0, 4, 16).end()
        };
        for (Bits stream : streams) {
            String bits = stream.filled();
            for (int end = 0; end < stream.length(); end += 8) {
                wrong("cut at " + end, new Bits().raw(bits.substring(0, end)), end);
            }
        }
    }

    /** Between its 0s, before its 1, and among its low bits, even if it could not be possible. */
    private static void endsInsideANumber() {
        wrong("before a 1", new Bits().plain(8, 83).plain(8, 66).plain(8, 0), 24);
        wrong("far behind what is possible", new Bits().plain(8, 83).plain(8, 66).plain(32, 0), 48);
        Bits low = Bits.head(1, 1, 1).u(2, 0).u(3, 15).raw("1");
        check.due("the 1 is the last bit", low.length(), 40);
        wrong("before the low bits", low, 40);
        wrong("among the low bits", Bits.head(1, 1, 1).u(2, 0).u(3, 15).raw("1").plain(8, 255), 48);
        right("with all low bits",
                Bits.head(1, 1, 1).u(2, 0).u(3, 15).raw("1").plain(15, 32767).end(), -16384);
    }

    /** Streams with 0 to 7 bits of filling: each bit of it that is not 0 is told. */
    private static void fillingBits() {
        for (int u = 0; u <= 7; u++) {
            int v = u % 2 == 0 ? u / 2 : -(u + 1) / 2;
            Bits bits = Bits.head(1, 1, 1).block(0, 0, v).end();
            int end = bits.length();
            int filled = bits.filled().length();
            right("filling of " + (filled - end), bits, v);
            for (int bit = end; bit < filled; bit++) {
                StringBuilder text = new StringBuilder(bits.filled());
                text.setCharAt(bit, '1');
                wrong("bit " + bit + " of the filling", new Bits().raw(text.toString()), bit);
                text.setCharAt(filled - 1, '1');
                wrong("bit " + bit + " and the last one", new Bits().raw(text.toString()), bit);
                text.append("00000000");
                wrong("bit " + bit + " and a byte", new Bits().raw(text.toString()), bit);
            }
        }
    }

    private static void byteTooMuch() {
        for (int u = 0; u <= 7; u++) {
            int v = u % 2 == 0 ? u / 2 : -(u + 1) / 2;
            String whole = Bits.head(1, 1, 1).block(0, 0, v).end().filled();
            for (int b : new int[] {0, 1, 128, 255}) {
                wrong("byte " + b + " too much", new Bits().raw(whole).plain(8, b), whole.length());
            }
            wrong("two bytes too much", new Bits().raw(whole).plain(16, 1), whole.length());
            wrong("the stream twice", new Bits().raw(whole).raw(whole), whole.length());
        }
    }

    /** Two channels of 400, in 800 blocks of one sample: the last ones are there. */
    private static void mostSamples() {
        BlockSound x = new BlockSound();
        Bits bits = Bits.head(2, 1, 400).raw("0100".repeat(798));
        check.due("read()", bits.block(0, 0, 3).block(0, 0, -3).end().readBy(x), 800);
        check.due("count(4)", x.count(4), 800);
        check.due("value(0)", x.value(0), 0);
        check.due("value(797)", x.value(797), 0);
        check.due("value(798)", x.value(798), 3);
        check.due("value(799)", x.value(799), -3);
        check.due("value(800)", x.value(800), BlockSound.NONE);
    }

    /** Any function and any k as told: also where 4 might be taken, or another way were shorter. */
    private static void waysNoWriterTakes() {
        right("function 0 for silence", Bits.head(1, 3, 3).block(0, 15, 0, 0, 0).end(), 0, 0, 0);
        right("function 3 for a step", Bits.head(1, 3, 3).block(3, 0, 1, -2, 1).end(), 1, 1, 1);
        right("k 0 for 500", Bits.head(1, 1, 1).block(2, 0, 500).end(), 500);
        right("4 for a block of any length", Bits.head(1, 64, 3).u(2, 4).end(), 0, 0, 0);
    }
}

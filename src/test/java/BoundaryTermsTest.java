/** The edges of the document's terms: samples, blocks, numbers, and the stream's head and end. */
public final class BoundaryTermsTest {
    private static Check check;

    public static void main(String[] args) {
        check = new Check("BoundaryTermsTest");
        samplesAtBothEdges();
        blocksOneSampleAroundTheirLength();
        lastBlocksOfWhatIsLeft();
        blockInTheHeadAtSixteens();
        samplesInTheHeadAtSixtyFours();
        numbersAtAPowerOfTwo();
        numbersWithASign();
        numberNearTheLastByte();
        fillingOfNoneAndOfSeven();
        check.end();
    }

    /** Samples are - 32,768 .. 32,767, of 1 or 2 channels. */
    private static void samplesAtBothEdges() {
        for (int channels = 1; channels <= 2; channels++) {
            for (int block = 1; block <= 4; block++) {
                BlockSound x = Told.of(channels, block,
                        -32768, 32767, 32767, -32768, -32768, -32768, 32767, 32767);
                x.write();
                x.take();
                check.due("read() of the edges", x.read(), 8);
                check.due("value(3)", x.value(3), -32768);
                check.due("value(6)", x.value(6), 32767);
                check.due("same()", x.same(), true);
            }
        }
    }

    /** With k 15 and small rests a block takes 3 and 5 bits, and 16 for each of its samples. */
    private static int samplesOfBlock(BlockSound x, int i) {
        return (x.cost(i, 0, 15) - 8) / 16;
    }

    /** One less than a block, just a block, and one more: never a block without samples. */
    private static void blocksOneSampleAroundTheirLength() {
        for (int channels = 1; channels <= 2; channels++) {
            for (int block : new int[] {1, 2, 63, 64}) {
                for (int each = block - 1; each <= block + 1; each++) {
                    BlockSound x = Told.of(channels, block, new int[channels * each]);
                    x.write();
                    int due = each == 0 ? 0 : each <= block ? 1 : 2;
                    String what = channels + " channels, " + each + " in blocks of " + block;
                    check.due(what, x.count(2), due * channels);
                    check.due(what + ": none behind", x.block(due * channels, 0), BlockSound.BAD);
                }
            }
        }
    }

    /** BLOCKS are of BLOCK samples, the last ones of what is left; a block of each channel in turn. */
    private static void lastBlocksOfWhatIsLeft() {
        int[][] cases = {{1, 1}, {63, 1}, {64, 64}, {65, 1}, {127, 63}, {128, 64}, {129, 1}};
        for (int[] each : cases) {
            for (int channels = 1; channels <= 2; channels++) {
                int block = each[0] == 63 ? 62 : 64;
                BlockSound x = Told.of(channels, block, new int[channels * each[0]]);
                x.write();
                int blocks = x.count(2);
                for (int i = 0; i < blocks; i++) {
                    boolean last = i >= blocks - channels;
                    check.due("channel of block " + i, x.block(i, 0), i % channels);
                    check.due(each[0] + " each: samples of block " + i, samplesOfBlock(x, i),
                            last ? each[1] : block);
                }
            }
        }
    }

    private static final String START = "0101001101000010";
    private static final String ONE_CHANNEL = "101";
    private static final String NO_SAMPLES = "1000000";
    private static final String END = "0101";

    /** U 4 of BLOCK, 1 .. 64: one 0 more at each multiple of 16. */
    private static void blockInTheHeadAtSixteens() {
        int[] blocks = {1, 15, 16, 31, 32, 47, 48, 63, 64};
        String[] bits = {"10001", "11111", "010000", "011111", "0010000", "0011111", "00010000",
            "00011111", "000010000"};
        for (int j = 0; j < blocks.length; j++) {
            Bits due = new Bits().raw(START + ONE_CHANNEL + bits[j] + NO_SAMPLES + END);
            Streams.written(check, "BLOCK " + blocks[j], Told.of(1, blocks[j]), due);
            Streams.right(check, "BLOCK " + blocks[j] + " read", due);
        }
        Streams.written(check, "two channels", Told.of(2, 1),
                new Bits().raw(START + "110" + "10001" + NO_SAMPLES + END));
    }

    /** U 6 of n, 0 .. 400: one 0 more at each multiple of 64. */
    private static void samplesInTheHeadAtSixtyFours() {
        int[] each = {0, 1, 63, 64, 127, 128, 383, 384, 399, 400};
        String[] bits = {"1000000", "1000001", "1111111", "01000000", "01111111", "001000000",
            "000001111111", "0000001000000", "0000001001111", "0000001010000"};
        for (int j = 0; j < each.length; j++) {
            String silence = "0100".repeat((each[j] + 63) / 64);
            Bits due = new Bits().raw(START + ONE_CHANNEL + "000010000" + bits[j] + silence + END);
            Streams.written(check, each[j] + " samples", Told.of(1, 64, new int[each[j]]), due);
            Streams.right(check, each[j] + " samples read", due, new int[each[j]]);
        }
    }

    /** U k of 2 to the k less 1 has no 0s, of 2 to the k one; told for each k, 0 .. 15. */
    private static void numbersAtAPowerOfTwo() {
        for (int k = 0; k <= 15; k++) {
            String below = "1" + "1".repeat(k);
            String power = "01" + "0".repeat(k);
            int first = k == 0 ? 0 : -(1 << k - 1);
            int second = k == 0 ? -1 : 1 << k - 1;
            Bits bits = Bits.head(1, 2, 2).u(2, 0).u(3, k).raw(below).raw(power).end();
            Streams.right(check, "2 to the " + k, bits, first, second);
        }
    }

    /** S of v is U of 2 v, for v below 0 of - 2 v - 1. */
    private static void numbersWithASign() {
        Bits bits = Bits.head(1, 5, 5).u(2, 0).u(3, 0).raw("1" + "01" + "001" + "0001" + "00001").end();
        Streams.right(check, "S 0", bits, 0, -1, 1, -2, 2);
        Bits edges = Bits.head(1, 2, 2).u(2, 0).u(3, 15)
                .raw("01" + "1".repeat(15)).raw("01" + "1".repeat(14) + "0").end();
        Streams.right(check, "S 15 of the edges", edges, -32768, 32767);
    }

    /** A number of nearly 4,000 0s is a number still. */
    private static void numberNearTheLastByte() {
        Streams.right(check, "S 0 of 1,900", Bits.head(1, 1, 1).block(0, 0, 1900).end(), 1900);
        Streams.right(check, "S 0 of -1,900", Bits.head(1, 1, 1).block(3, 0, -1900).end(), -1900);
    }

    /** 0s up to a whole byte: none where it is whole, seven where one bit is over. */
    private static void fillingOfNoneAndOfSeven() {
        Bits whole = Bits.head(1, 1, 1).block(0, 3, 8).end();
        check.due("bits of a whole stream", whole.length(), 48);
        Streams.written(check, "no filling", Told.of(1, 1, 8), whole);
        Bits over = Bits.head(1, 1, 1).block(0, 4, 16).end();
        check.due("bits of a stream with one over", over.length(), 49);
        Streams.written(check, "seven 0s", Told.of(1, 1, 16), over);
    }
}

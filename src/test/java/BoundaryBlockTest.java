import java.util.Arrays;

/** The edges of a block: what lies before the first sample, the means, and the writer's choice. */
public final class BoundaryBlockTest {
    private static Check check;

    public static void main(String[] args) {
        check = new Check("BoundaryBlockTest");
        noSampleBeforeIsZero();
        samplesBeforeInAnotherBlock();
        samplesBeforeOfThisChannel();
        blocksThatThereAreNotAreZero();
        onlyTheLastFourBlocks();
        meanOfFourRoundedDown();
        meanOfBlockRoundedDown();
        meansAtBothEdges();
        meansOfThisChannel();
        fourOnlyIfAllAreTheMean();
        fewestBits();
        leastFunctionOfThose();
        leastKOfThose();
        kIsAtMostFifteen();
        check.end();
    }

    /** Function and k as the writer chose them. */
    private static void chosen(String what, BlockSound x, int i, int f, int k) {
        x.write();
        check.due(what + ": function", x.block(i, 1), f);
        check.due(what + ": k", x.block(i, 2), k);
    }

    private static void meanIs(String what, BlockSound x, int i) {
        chosen(what, x, i, 4, BlockSound.BAD);
    }

    /** x, y, z are 0, if there is none: all tell 0 ahead, then x, 2 x and 3 x, then 3 x - 3 y. */
    private static void noSampleBeforeIsZero() {
        int[] first = {7, 7, 7, 7};
        int[] second = {0, 7, 14, 21};
        for (int f = 0; f <= 3; f++) {
            Streams.right(check, "the first two of function " + f,
                    Bits.head(1, 2, 2).block(f, 4, 7, 1).end(), first[f], second[f] + 1);
        }
        Streams.right(check, "the third of function 2",
                Bits.head(1, 3, 3).block(2, 4, 7, 1, 0).end(), 7, 15, 23);
        Streams.right(check, "the third of function 3",
                Bits.head(1, 3, 3).block(3, 4, 7, 1, 0).end(), 7, 22, 45);
        Streams.right(check, "the fourth of function 3",
                Bits.head(1, 4, 4).block(3, 4, 7, 1, 0, 0).end(), 7, 22, 45, 76);
        BlockSound x = Told.of(1, 2, 7, 22);
        x.write();
        check.due("cost of 7 and 22 by function 3", x.cost(0, 3, 0), 3 + 4 + 15 + 3);
    }

    private static void samplesBeforeInAnotherBlock() {
        Streams.right(check, "x", Bits.head(1, 1, 2).block(0, 4, 9).block(1, 0, 0).end(), 9, 9);
        Streams.right(check, "x and y",
                Bits.head(1, 2, 3).block(1, 4, 9, 2).block(2, 0, 0).end(), 9, 11, 13);
        Streams.right(check, "x, y and z",
                Bits.head(1, 1, 4).block(1, 4, 1).block(1, 4, 3).block(1, 4, 5).block(3, 0, 0).end(),
                1, 4, 9, 16);
    }

    private static void samplesBeforeOfThisChannel() {
        Bits bits = Bits.head(2, 1, 4)
                .block(0, 8, 100).block(3, 0, -1)
                .block(1, 0, 0).block(1, 0, 0)
                .block(2, 0, 0).block(2, 0, -1)
                .block(3, 0, 0).block(3, 0, 0).end();
        Streams.right(check, "by turns", bits, 100, -1, 100, -1, 100, -2, 100, -4);
    }

    /** One, two and three blocks before: the others count as 0 among four. */
    private static void blocksThatThereAreNotAreZero() {
        meanIs("none before", Told.of(1, 1, 0), 0);
        meanIs("one before", Told.of(1, 1, 400, 100), 1);
        meanIs("two before", Told.of(1, 1, 400, 200, 150), 2);
        meanIs("three before", Told.of(1, 1, 400, 200, 600, 300), 3);
        meanIs("four before", Told.of(1, 1, 400, 200, 600, 800, 500), 4);
    }

    private static void onlyTheLastFourBlocks() {
        BlockSound x = Told.of(1, 1, 1000, 0, 0, 0, 0, 0);
        x.write();
        check.due("the fourth before counts", x.block(4, 1) == 4, false);
        check.due("the fifth before does not", x.block(5, 1), 4);
        check.due("the fourth before counts a fourth", x.cost(4, 0, 0), 3 + 4 + 500);
        meanIs("the fourth before alone", Told.of(1, 1, 1000, 0, 0, 0, 250), 4);
    }

    /** (sum + 2) / 4, rounded down, above and below 0. */
    private static void meanOfFourRoundedDown() {
        int[] sums = {1, 2, 3, 5, 6, -1, -2, -3, -5, -6, -7, -10, -11};
        int[] means = {0, 1, 1, 1, 2, 0, 0, -1, -1, -1, -2, -2, -3};
        for (int j = 0; j < sums.length; j++) {
            meanIs("four of the sum " + sums[j], Told.of(1, 1, sums[j], means[j]), 1);
            Streams.right(check, "four of the sum " + sums[j] + " read",
                    Bits.head(1, 1, 2).block(0, 1, sums[j]).u(2, 4).end(), sums[j], means[j]);
        }
    }

    /** Four blocks of the same mean have that mean: so the mean of a block is seen as it is. */
    private static int[] fourAlike(int block, int sum, int mean) {
        int[] samples = new int[5 * block];
        for (int i = 0; i < 4; i++) {
            samples[i * block] = sum;
        }
        Arrays.fill(samples, 4 * block, 5 * block, mean);
        return samples;
    }

    /** (sum + m / 2) / m, m / 2 cut off: for m 1, even, and odd. */
    private static void meanOfBlockRoundedDown() {
        int[][] cases = { // BLOCK, sum, mean
            {1, 1, 1}, {1, -1, -1}, {2, 1, 1}, {2, -1, 0}, {2, 3, 2}, {2, -3, -1}, {2, -4, -2},
            {3, 1, 0}, {3, 2, 1}, {3, -1, 0}, {3, -2, -1}, {3, -4, -1}, {3, -5, -2},
            {5, 2, 0}, {5, 3, 1}, {5, -2, 0}, {5, -3, -1}, {63, 31, 0}, {63, 32, 1}, {63, -31, 0},
            {63, -32, -1}, {64, 31, 0}, {64, 32, 1}, {64, -32, 0}, {64, -33, -1}
        };
        for (int[] c : cases) {
            meanIs("a block of " + c[0] + " with the sum " + c[1],
                    Told.of(1, c[0], fourAlike(c[0], c[1], c[2])), 4);
        }
    }

    private static void meansAtBothEdges() {
        for (int edge : new int[] {-32768, 32767}) {
            for (int block : new int[] {1, 7, 64}) {
                int[] samples = new int[5 * block];
                Arrays.fill(samples, edge);
                meanIs("all " + edge + " in blocks of " + block, Told.of(1, block, samples), 4);
            }
        }
    }

    private static void meansOfThisChannel() {
        BlockSound x = Told.of(2, 1, 8, -800, 8, -800, 8, -800, 8, -800, 8, -800);
        meanIs("the fifth of the one", x, 8);
        meanIs("the fifth of the other", x, 9);
        BlockSound y = Told.of(2, 1, 400, 0, 100, 0);
        meanIs("the second of the one", y, 2);
        meanIs("the second of the other", y, 3);
    }

    /** 4: all samples of the block are the mean; one that is not, first or last, and it may not. */
    private static void fourOnlyIfAllAreTheMean() {
        meanIs("all", Told.of(1, 3, 0, 0, 0), 0);
        for (int other = 0; other < 3; other++) {
            for (int v : new int[] {-1, 1}) {
                int[] samples = new int[3];
                samples[other] = v;
                BlockSound x = Told.of(1, 3, samples);
                x.write();
                check.due(v + " at " + other + " is not 4", x.block(0, 1) == 4, false);
            }
        }
        // function 1 leaves nothing over, but the mean is 2 and not 8
        chosen("nothing left over, but not the mean", Told.of(1, 1, 8, 8), 1, 1, 0);
    }

    private static void fewestBits() {
        chosen("function 0", Told.of(1, 4, 5, -5, 5, -5), 0, 0, 2);
        chosen("function 1", Told.of(1, 4, 50, 50, 50, 50), 0, 1, 4);
        chosen("function 2", Told.of(1, 8, 10, 20, 30, 40, 50, 60, 70, 80), 0, 2, 1);
        chosen("function 3", Told.of(1, 8, 1, 4, 9, 16, 25, 36, 49, 64), 0, 3, 0);
    }

    private static void leastFunctionOfThose() {
        // with no sample before, and the mean 0, all functions leave the same
        chosen("0 of all", Told.of(1, 1, 5), 0, 0, 2);
        chosen("1 of 1 and 2", Told.of(1, 2, 1, 1, 1, 1), 1, 1, 0);
        // 19, 9, 7 with k 3 and 19, 10, 2 with k 2 take 22 bits: the function goes before k
        BlockSound x = Told.of(1, 3, -10, -5, -4);
        chosen("0 with the greater k", x, 0, 0, 3);
        check.due("function 0, k 3", x.cost(0, 0, 3), 22);
        check.due("function 1, k 2", x.cost(0, 1, 2), 22);
    }

    private static void leastKOfThose() {
        BlockSound x = Told.of(1, 1, 1);
        chosen("k 0 of 0 and 1", x, 0, 0, 0);
        check.due("k 0", x.cost(0, 0, 0), 10);
        check.due("k 1", x.cost(0, 0, 1), 10);
        BlockSound y = Told.of(1, 1, -5);
        chosen("k 2 of 2 and 3", y, 0, 0, 2);
        check.due("k 2", y.cost(0, 0, 2), 12);
        check.due("k 3", y.cost(0, 0, 3), 12);
    }

    /** Rests of 65,535 would be shorter with k 16, were there one. */
    private static void kIsAtMostFifteen() {
        BlockSound x = Told.of(1, 1, 32767, 32767, 32767, 32767, -32768);
        chosen("a jump", x, 4, 0, 15);
        check.due("its bits", x.block(4, 3), 3 + 5 + 3 + 16);
        chosen("the lowest sample", Told.of(1, 1, -32768), 0, 0, 15);
    }
}

/** cost: how many bits a function and k would take for block i of what was written. */
public final class Promise07CostTest {
    private static Check check;

    public static void main(String[] args) {
        check = new Check("Promise07CostTest");
        everyWay();
        meanBlocks();
        greatest();
        wrong();
        written();
        check.end();
    }

    /** Block 1 of 10, 20 | 40, 35: the mean is (15 + 2) / 4. */
    private static void everyWay() {
        BlockSound x = Told.of(1, 2, 10, 20, 40, 35);
        x.write();
        int[][] rests = {{36, 31}, {20, -5}, {10, -25}, {10, -35}};
        for (int f = 0; f < 4; f++) {
            for (int k = 0; k <= 15; k++) {
                int due = new Bits().block(f, k, rests[f]).length();
                check.due("cost(1, " + f + ", " + k + ")", x.cost(1, f, k), due);
            }
        }
    }

    private static void meanBlocks() {
        BlockSound x = Told.of(1, 2, 0, 0);
        x.write();
        check.due("function", x.block(0, 1), 4);
        check.due("cost(0, 0, 0) of silence", x.cost(0, 0, 0), 9);
        check.due("cost(0, 3, 8) of silence", x.cost(0, 3, 8), 26);
        check.due("cost(0, 4, 0)", x.cost(0, 4, 0), BlockSound.BAD);
    }

    private static void greatest() {
        int[] samples = new int[64];
        for (int t = 0; t < 64; t++) {
            samples[t] = t % 2 == 0 ? -32768 : 32767;
        }
        BlockSound x = Told.of(1, 64, samples);
        x.write();
        // told out here once more, in long numbers
        long due = 3 + 4;
        for (int t = 0; t < 64; t++) {
            int a = t > 0 ? samples[t - 1] : 0;
            int b = t > 1 ? samples[t - 2] : 0;
            int c = t > 2 ? samples[t - 3] : 0;
            int rest = samples[t] - (3 * a - 3 * b + c);
            due += (rest < 0 ? -2L * rest - 1 : 2L * rest) + 1;
        }
        check.due("the dearest way", x.cost(0, 3, 0), due);
    }

    private static void wrong() {
        BlockSound x = Told.of(2, 4, 1, 2, 3, 4);
        check.due("cost before writing", x.cost(0, 0, 0), BlockSound.BAD);
        x.write();
        int[] edges = {Integer.MIN_VALUE, -1, 16, Integer.MAX_VALUE};
        for (int edge : edges) {
            check.due("cost(" + edge + ", 0, 0)", x.cost(edge, 0, 0), BlockSound.BAD);
            check.due("cost(0, " + edge + ", 0)", x.cost(0, edge, 0), BlockSound.BAD);
            check.due("cost(0, 0, " + edge + ")", x.cost(0, 0, edge), BlockSound.BAD);
        }
        check.due("cost(2, 0, 0)", x.cost(2, 0, 0), BlockSound.BAD);
        check.due("cost(1, 3, 15)", x.cost(1, 3, 15), 8 + 2 * 16);
    }

    private static void written() {
        BlockSound x = Told.of(1, 2, 10, 20, 40, 35);
        x.write();
        int before = x.cost(1, 2, 3);
        x.settings(2, 1);
        x.sample(1);
        x.sample(1);
        check.due("cost after other samples", x.cost(1, 2, 3), before);
        check.due("cost of all blocks of before", x.cost(0, 0, 15) > 0, true);
    }
}

/** cost: how many bits a function and k would take for block i of what was written. */
public final class Promise07CostTest {
    private static Check check;

    public static void main(String[] args) {
        check = new Check("Promise07CostTest");
        everyWay();
        meanBlocks();
        greatest();
        blocksThatAreNone();
        functionsThatAreNone();
        ksThatAreNone();
        written();
        noBlocks();
        fewerBlocksThanBefore();
        chosenWayCostsItsBits();
        check.end();
    }

    /** Block 1 of 10, 20 | 40, 35: the mean is (15 + 2) / 4. */
    private static void everyWay() {
        BlockSound x = Told.of(1, 2, 10, 20, 40, 35);
        x.write();
        int[][] rests = {{36, 31}, {20, -5}, {10, -25}, {10, -35}};
        for (int f = 0; f < 4; f++) {
            for (int k = 0; k <= 15; k++) {
                int due = new Bits().block(f, k, rests[f]).length();
                check.due("cost(1, " + f + ", " + k + ")", x.cost(1, f, k), due);
            }
        }
    }

    private static void meanBlocks() {
        BlockSound x = Told.of(1, 2, 0, 0);
        x.write();
        check.due("function", x.block(0, 1), 4);
        check.due("cost(0, 0, 0) of silence", x.cost(0, 0, 0), 9);
        check.due("cost(0, 3, 8) of silence", x.cost(0, 3, 8), 26);
        check.due("cost(0, 4, 0)", x.cost(0, 4, 0), BlockSound.BAD);
    }

    private static void greatest() {
        int[] samples = new int[64];
        for (int t = 0; t < 64; t++) {
            samples[t] = t % 2 == 0 ? -32768 : 32767;
        }
        BlockSound x = Told.of(1, 64, samples);
        x.write();
        // told out here once more, in long numbers
        long due = 3 + 4;
        for (int t = 0; t < 64; t++) {
            int a = t > 0 ? samples[t - 1] : 0;
            int b = t > 1 ? samples[t - 2] : 0;
            int c = t > 2 ? samples[t - 3] : 0;
            int rest = samples[t] - (3 * a - 3 * b + c);
            due += (rest < 0 ? -2L * rest - 1 : 2L * rest) + 1;
        }
        check.due("the dearest way", x.cost(0, 3, 0), due);
    }

    private static BlockSound two() {
        return Told.of(2, 4, 1, 2, 3, 4);
    }

    private static void blocksThatAreNone() {
        BlockSound x = two();
        check.due("cost before writing", x.cost(0, 0, 0), BlockSound.BAD);
        x.write();
        for (int i : new int[] {Integer.MIN_VALUE, -1, 2, 3, Integer.MAX_VALUE}) {
            check.due("cost(" + i + ", 0, 0)", x.cost(i, 0, 0), BlockSound.BAD);
        }
        check.due("cost(1, 3, 15)", x.cost(1, 3, 15), 8 + 2 * 16);
    }

    private static void functionsThatAreNone() {
        BlockSound x = two();
        x.write();
        for (int f : new int[] {Integer.MIN_VALUE, -1, 4, 5, Integer.MAX_VALUE}) {
            check.due("cost(0, " + f + ", 0)", x.cost(0, f, 0), BlockSound.BAD);
        }
    }

    private static void ksThatAreNone() {
        BlockSound x = two();
        x.write();
        for (int k : new int[] {Integer.MIN_VALUE, -1, 16, 17, 32, Integer.MAX_VALUE}) {
            check.due("cost(0, 0, " + k + ")", x.cost(0, 0, k), BlockSound.BAD);
        }
    }

    private static void written() {
        BlockSound x = Told.of(1, 2, 10, 20, 40, 35);
        x.write();
        int before = x.cost(1, 2, 3);
        x.settings(2, 1);
        x.sample(1);
        x.sample(1);
        check.due("cost after other samples", x.cost(1, 2, 3), before);
        check.due("cost of all blocks of before", x.cost(0, 0, 15) > 0, true);
    }

    private static void noBlocks() {
        BlockSound x = Told.of(2, 2, 4);
        x.write();
        check.due("cost(0, 0, 0) without blocks", x.cost(0, 0, 0), BlockSound.BAD);
    }

    private static void fewerBlocksThanBefore() {
        BlockSound x = Told.of(1, 1, 4, 5, 6);
        x.write();
        check.due("cost(2, 1, 0)", x.cost(2, 1, 0), 3 + 4 + 3);
        check.due("cost(3, 1, 0)", x.cost(3, 1, 0), BlockSound.BAD);
        x.settings(1, 1);
        x.sample(4);
        x.write();
        check.due("cost(0, 1, 0) of one block", x.cost(0, 1, 0), 3 + 4 + 9);
        check.due("cost(1, 1, 0) of one block", x.cost(1, 1, 0), BlockSound.BAD);
        check.due("cost(2, 1, 0) of one block", x.cost(2, 1, 0), BlockSound.BAD);
    }

    /** No way is shorter than the one that was taken. */
    private static void chosenWayCostsItsBits() {
        BlockSound x = Told.of(2, 2, 9, 9, -30, 9, 31, 9, 0, 9);
        x.write();
        for (int i = 0; i < 4; i++) {
            int bits = x.block(i, 3);
            check.due("block " + i, x.cost(i, x.block(i, 1), x.block(i, 2)), bits);
            for (int f = 0; f <= 3; f++) {
                for (int k = 0; k <= 15; k++) {
                    check.due("another way", x.cost(i, f, k) >= bits, true);
                }
            }
        }
    }
}

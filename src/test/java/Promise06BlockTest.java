/** block: of block i of what was written its channel, function, k (BAD for 4) and bits. */
public final class Promise06BlockTest {
    private static Check check;

    public static void main(String[] args) {
        check = new Check("Promise06BlockTest");
        ordinary();
        blocksThatAreNone();
        whatIsNone();
        written();
        noBlocks();
        fewerBlocksThanBefore();
        check.end();
    }

    private static void due(BlockSound x, int i, int channel, int f, int k, int bits) {
        check.due("block(" + i + ", 0)", x.block(i, 0), channel);
        check.due("block(" + i + ", 1)", x.block(i, 1), f);
        check.due("block(" + i + ", 2)", x.block(i, 2), k);
        check.due("block(" + i + ", 3)", x.block(i, 3), bits);
    }

    private static BlockSound two() {
        return Told.of(2, 2, 0, 1, 0, 1, 9, 1);
    }

    private static void ordinary() {
        BlockSound x = two();
        x.write();
        due(x, 0, 0, 4, BlockSound.BAD, 4);
        due(x, 1, 1, 1, 0, 11);
        due(x, 2, 0, 0, 3, 13);
        due(x, 3, 1, 1, 0, 8);
        due(x, 4, -1, -1, -1, -1);
    }

    private static void blocksThatAreNone() {
        BlockSound x = two();
        x.write();
        for (int i : new int[] {Integer.MIN_VALUE, -1, 4, 5, Integer.MAX_VALUE}) {
            due(x, i, -1, -1, -1, -1);
        }
    }

    private static void whatIsNone() {
        BlockSound x = two();
        x.write();
        for (int what : new int[] {Integer.MIN_VALUE, -1, 4, 5, Integer.MAX_VALUE}) {
            check.due("block(1, " + what + ")", x.block(1, what), BlockSound.BAD);
        }
    }

    private static void written() {
        BlockSound x = two();
        check.due("block(0, 0) before writing", x.block(0, 0), BlockSound.BAD);
        x.write();
        x.sample(500);
        x.sample(500);
        due(x, 2, 0, 0, 3, 13);
        check.due("block(4, 0) of samples told later", x.block(4, 0), BlockSound.BAD);
        x.settings(1, 1);
        due(x, 1, 1, 1, 0, 11);
        x.cost(0, 3, 3);
        due(x, 2, 0, 0, 3, 13);
    }

    private static void noBlocks() {
        BlockSound x = Told.of(2, 2, 4);
        x.write();
        check.due("blocks of one sample of two channels", x.count(2), 0);
        due(x, 0, -1, -1, -1, -1);
    }

    private static void fewerBlocksThanBefore() {
        BlockSound x = two();
        x.write();
        x.settings(1, 64);
        x.sample(0);
        x.write();
        due(x, 0, 0, 4, BlockSound.BAD, 4);
        due(x, 1, -1, -1, -1, -1);
        due(x, 3, -1, -1, -1, -1);
    }
}

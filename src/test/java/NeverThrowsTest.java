import java.util.Random;

/** No call throws for any arguments in any state, also behind the 512th, where answers are free. */
public final class NeverThrowsTest {
    private static final int[] EDGES = {
        Integer.MIN_VALUE, -32769, -32768, -1, 0, 1, 2, 3, 4, 5, 15, 16, 64, 65, 255, 256, 400, 799,
        800, 2999, 3000, 32767, 32768, Integer.MAX_VALUE
    };

    public static void main(String[] args) {
        Check check = new Check("NeverThrowsTest");
        for (int seed = 0; seed < 20; seed++) {
            Random r = new Random(seed);
            BlockSound x = new BlockSound();
            for (int call = 0; call < 4000; call++) {
                callOne(x, r);
            }
        }
        fullest(check);
        check.end();
    }

    private static int pick(Random r) {
        return r.nextBoolean() ? EDGES[r.nextInt(EDGES.length)] : r.nextInt(70);
    }

    private static void callOne(BlockSound x, Random r) {
        switch (r.nextInt(200) == 0 ? 0 : 1 + r.nextInt(20)) {
            case 0 -> x.settings(pick(r), pick(r));
            case 1 -> x.write();
            case 2 -> x.at(pick(r));
            case 3 -> x.block(pick(r), pick(r));
            case 4 -> x.cost(pick(r), pick(r), pick(r));
            case 5 -> x.feed(pick(r));
            case 6 -> x.take();
            case 7 -> x.read();
            case 8 -> x.value(pick(r));
            case 9 -> x.same();
            case 10 -> x.count(pick(r));
            default -> x.sample(r.nextInt(65536) - 32768);
        }
    }

    /** All that two channels hold, in blocks of one, each as long as it can be. */
    private static void fullest(Check check) {
        BlockSound x = new BlockSound();
        x.settings(2, 1);
        Random r = new Random(7);
        for (int t = 1; t <= 800; t++) {
            check.due("sample " + t, x.sample(r.nextBoolean() ? 32767 : -32768), t);
        }
        check.due("sample 801", x.sample(0), BlockSound.BAD);
        int size = x.write();
        check.due("it fits", size <= 3000, true);
        check.due("blocks", x.count(2), 800);
        check.due("take()", x.take(), size);
        check.due("read()", x.read(), 800);
        check.due("same()", x.same(), true);
    }
}

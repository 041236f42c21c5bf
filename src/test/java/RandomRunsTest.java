import java.util.Random;

/** Runs of calls, always the same ones, on a BlockSound and on the Model beside it. */
public final class RandomRunsTest {
    private static final int RUNS = 400;

    public static void main(String[] args) {
        Check check = new Check("RandomRunsTest");
        for (int seed = 0; seed < RUNS && check.isRight(); seed++) {
            mixedRun(new Both(check), new Random(seed));
            brokenStreams(new Both(check), new Random(1000 + seed));
            madeStreams(new Both(check), new Random(2000 + seed));
        }
        check.end();
    }

    private static int pickBlock(Random r) {
        return r.nextInt(4) == 0 ? new int[] {1, 2, 63, 64}[r.nextInt(4)] : 1 + r.nextInt(20);
    }

    /** One of several kinds of sound: silence, steps, waves, slopes, small and great noise. */
    private static int pickSample(Random r, int kind, int t) {
        switch (kind) {
            case 0:
                return r.nextInt(30) == 0 ? 1 : 0;
            case 1:
                return t / 13 % 2 == 0 ? 700 : -701;
            case 2:
                return (int) (9000 * Math.sin(t / 9.0)) + r.nextInt(5);
            case 3:
                return -t * t + 40 * t;
            case 4:
                return r.nextInt(7) - 4;
            case 5:
                return r.nextInt(65536) - 32768;
            case 6:
                return r.nextBoolean() ? 32767 : -32768;
            default:
                return -3 - t / 50;
        }
    }

    private static void tellSamples(Both both, Random r, int many) {
        int kind = r.nextInt(8);
        for (int t = 0; t < many; t++) {
            if (r.nextInt(40) == 0) {
                kind = r.nextInt(8);
            }
            both.sample(pickSample(r, kind, t));
        }
    }

    private static void mixedRun(Both both, Random r) {
        while (both.left() > 90) {
            if (r.nextInt(5) != 0) {
                both.settings(r.nextInt(4), pickBlock(r) - (r.nextInt(8) == 0 ? 5 : 0));
            }
            tellSamples(both, r, r.nextInt(Math.min(both.left() - 80, 1 + r.nextInt(300))));
            both.same();
            both.write();
            if (r.nextBoolean()) {
                tellSamples(both, r, r.nextInt(3));
            }
            if (r.nextInt(4) == 0) {
                both.settings(1 + r.nextInt(2), pickBlock(r));
            }
            askWritten(both, r);
            both.take();
            both.count(3);
            if (r.nextInt(6) == 0) {
                both.feed(r.nextInt(300) - 20);
            }
            both.read();
            both.same();
            askRead(both, r);
        }
    }

    private static void askWritten(Both both, Random r) {
        for (int j = 0; j < 10; j++) {
            both.at(r.nextInt(200) - 2);
            both.block(r.nextInt(both.blocksWritten() + 2) - 1, r.nextInt(6) - 1);
            both.cost(r.nextInt(both.blocksWritten() + 2) - 1, r.nextInt(6) - 1, r.nextInt(18) - 1);
        }
        both.count(1);
        both.count(2);
    }

    private static void askRead(Both both, Random r) {
        for (int j = 0; j < 10; j++) {
            both.value(r.nextInt(both.samplesRead() + 3) - 1);
        }
        both.count(r.nextInt(8) - 1);
    }

    /** Streams of the writer with a bit turned over, a byte lost, or bytes too much. */
    private static void brokenStreams(Both both, Random r) {
        both.settings(1 + r.nextInt(2), pickBlock(r));
        tellSamples(both, r, r.nextInt(30));
        int size = both.write();
        while (both.left() > size + 12) {
            int turned = r.nextInt(8 * size);
            int kept = r.nextInt(3) == 0 ? r.nextInt(size + 1) : size;
            boolean turns = r.nextInt(5) != 0;
            for (int i = 0; i < kept; i++) {
                boolean here = turns && i == turned / 8;
                both.feed(both.writtenByte(i) ^ (here ? 1 << turned % 8 : 0));
            }
            if (r.nextInt(8) == 0) {
                both.feed(r.nextInt(3));
            }
            both.read();
            both.count(4);
            both.count(5);
            both.value(r.nextInt(both.samplesRead() + 1));
            both.same();
        }
    }

    /** Streams that the writer would not choose, with any function and any k. */
    private static void madeStreams(Both both, Random r) {
        for (int round = 0; round < 40 && both.left() > 12; round++) {
            int[] bytes = madeStream(r).bytes();
            if (bytes.length > both.left() - 12) {
                continue;
            }
            for (int b : bytes) {
                both.feed(b);
            }
            both.read();
            askOfMade(both, r);
        }
    }

    private static void askOfMade(Both both, Random r) {
        for (int j = 0; j < 8; j++) {
            both.value(r.nextInt(both.samplesRead() + 1));
        }
        both.same();
        both.count(5);
    }

    private static Bits madeStream(Random r) {
        int channels = 1 + r.nextInt(2);
        int block = 1 + r.nextInt(5);
        int n = r.nextInt(12);
        Bits bits = Bits.head(channels, block, n);
        for (int from = 0; from < n; from += block) {
            for (int c = 0; c < channels; c++) {
                int f = r.nextInt(40) == 0 ? 5 + r.nextInt(3) : r.nextInt(5);
                if (f == 4) {
                    bits.u(2, 4);
                    continue;
                }
                int k = r.nextInt(40) == 0 ? 16 + r.nextInt(3) : r.nextInt(16);
                int[] rests = new int[Math.min(block, n - from)];
                for (int j = 0; j < rests.length; j++) {
                    rests[j] = r.nextInt(2 << k) - (1 << k);
                }
                bits.block(f, k, rests);
            }
        }
        return r.nextInt(20) == 0 ? bits.u(2, r.nextInt(9)) : bits.end();
    }
}

import java.util.ArrayList;
import java.util.List;

/**
 * The document once more, told another way: each channel a list of its own, bits as text, every
 * block written in all its ways and the lengths of the texts compared. Only for comparison.
 */
final class Model {
    private int channels = 1;
    private int block = 16;
    private final List<Integer> told = new ArrayList<>();
    private List<Integer> collected = new ArrayList<>();
    private List<Integer> written = new ArrayList<>();
    private List<Written> blocks = new ArrayList<>();
    private int readChannels = 0;
    private List<Integer> readSamples = new ArrayList<>();

    /** A block that was written: its channel, what was chosen, and all the ways that there were. */
    private record Written(int channel, int f, int k, String bits, int[][] costs) {
    }

    /** A stream that is wrong, and where. */
    private static final class Wrong extends RuntimeException {
        private static final long serialVersionUID = 1L;
        final int bit;

        Wrong(int bit) {
            super(null, null, false, false);
            this.bit = bit;
        }
    }

    boolean settings(int newChannels, int newBlock) {
        boolean possible = (newChannels == 1 || newChannels == 2) && newBlock >= 1 && newBlock <= 64;
        if (possible) {
            channels = newChannels;
            block = newBlock;
            told.clear();
        }
        return possible;
    }

    int sample(int v) {
        if (v != (short) v || told.size() == 400 * channels) {
            return -1;
        }
        told.add(v);
        return told.size();
    }

    private List<Integer> cut() {
        return told.subList(0, told.size() - told.size() % channels);
    }

    static int mean(List<Integer> values) {
        long sum = 0;
        for (int v : values) {
            sum += v;
        }
        int m = values.size();
        return (int) Math.floor((double) (sum + m / 2) / m);
    }

    private static int meanOfLastFour(List<Integer> means) {
        List<Integer> four = new ArrayList<>(List.of(0, 0, 0, 0));
        four.addAll(means);
        return mean(four.subList(four.size() - 4, four.size()));
    }

    private static int before(List<Integer> samples, int t) {
        return t < 0 ? 0 : samples.get(t);
    }

    private static int ahead(List<Integer> samples, int t, int f, int mean) {
        int x = before(samples, t - 1);
        int y = before(samples, t - 2);
        int z = before(samples, t - 3);
        return new int[] {mean, x, 2 * x - y, 3 * x - 3 * y + z, mean}[f];
    }

    int write() {
        List<List<Integer>> lines = new ArrayList<>();
        List<List<Integer>> means = new ArrayList<>();
        for (int c = 0; c < channels; c++) {
            lines.add(new ArrayList<>());
            means.add(new ArrayList<>());
        }
        List<Integer> cut = cut();
        for (int i = 0; i < cut.size(); i++) {
            lines.get(i % channels).add(cut.get(i));
        }
        int n = cut.size() / channels;
        Bits bits = Bits.head(channels, block, n);
        blocks = new ArrayList<>();
        for (int from = 0; from < n; from += block) {
            for (int c = 0; c < channels; c++) {
                int to = Math.min(n, from + block);
                Written w = shortest(c, lines.get(c), from, to, meanOfLastFour(means.get(c)));
                means.get(c).add(mean(lines.get(c).subList(from, to)));
                blocks.add(w);
                bits.raw(w.bits);
            }
        }
        written = new ArrayList<>();
        for (int b : bits.end().bytes()) {
            written.add(b);
        }
        return written.size();
    }

    private static Written shortest(int c, List<Integer> line, int from, int to, int mean) {
        int[][] costs = new int[4][16];
        boolean allMean = true;
        int bestF = 0;
        int bestK = 0;
        for (int t = from; t < to; t++) {
            allMean &= line.get(t) == mean;
        }
        for (int f = 0; f < 4; f++) {
            for (int k = 0; k < 16; k++) {
                long length = 3 + (k < 8 ? 4 : 5);
                for (int t = from; t < to; t++) {
                    long v = line.get(t) - ahead(line, t, f, mean);
                    length += (v >= 0 ? 2 * v : -2 * v - 1) / (1 << k) + 1 + k;
                }
                costs[f][k] = (int) length;
                if (length < costs[bestF][bestK]) {
                    bestF = f;
                    bestK = k;
                }
            }
        }
        if (allMean) {
            return new Written(c, 4, -1, new Bits().u(2, 4).filled().substring(0, 4), costs);
        }
        int[] rests = new int[to - from];
        for (int t = from; t < to; t++) {
            rests[t - from] = line.get(t) - ahead(line, t, bestF, mean);
        }
        Bits bits = new Bits().block(bestF, bestK, rests);
        return new Written(c, bestF, bestK, bits.filled().substring(0, bits.length()), costs);
    }

    int at(int i) {
        return i >= 0 && i < written.size() ? written.get(i) : -1;
    }

    int block(int i, int what) {
        if (i < 0 || i >= blocks.size() || what < 0 || what > 3) {
            return -1;
        }
        Written w = blocks.get(i);
        return new int[] {w.channel, w.f, w.k, w.bits.length()}[what];
    }

    int cost(int i, int f, int k) {
        boolean possible = i >= 0 && i < blocks.size() && f >= 0 && f < 4 && k >= 0 && k < 16;
        return possible ? blocks.get(i).costs[f][k] : -1;
    }

    boolean feed(int b) {
        return b >= 0 && b < 256 && collected.size() < 3000 && collected.add(b);
    }

    int take() {
        collected = new ArrayList<>(written.subList(0, Math.min(3000, written.size())));
        return collected.size();
    }

    int read() {
        StringBuilder bits = new StringBuilder();
        for (int b : collected) {
            bits.append(new Bits().plain(8, b).filled());
        }
        collected = new ArrayList<>();
        try {
            parse(bits.toString());
        } catch (Wrong wrong) {
            return -1 - wrong.bit;
        }
        return readSamples.size();
    }

    private int here;

    private int number(String bits, int k, int lowest, int highest) {
        int first = here;
        int one = bits.indexOf('1', first);
        if (one < 0 || one + k >= bits.length()) {
            throw new Wrong(bits.length());
        }
        here = one + 1 + k;
        int low = k == 0 ? 0 : Integer.parseInt(bits.substring(one + 1, here), 2);
        int v = (one - first) * (1 << k) + low;
        if (v < lowest || v > highest) {
            throw new Wrong(first);
        }
        return v;
    }

    private void parse(String bits) {
        String start = new Bits().plain(8, 83).plain(8, 66).filled();
        for (int i = 0; i < 16; i += 8) {
            if (bits.length() < i + 8) {
                throw new Wrong(bits.length());
            }
            if (!bits.startsWith(start.substring(i, i + 8), i)) {
                throw new Wrong(i);
            }
        }
        here = 16;
        int c = number(bits, 2, 1, 2);
        int length = number(bits, 4, 1, 64);
        int n = number(bits, 6, 0, 400);
        List<List<Integer>> lines = List.of(new ArrayList<>(), new ArrayList<>());
        List<List<Integer>> means = List.of(new ArrayList<>(), new ArrayList<>());
        for (int from = 0; from < n; from += length) {
            for (int i = 0; i < c; i++) {
                parseBlock(bits, lines.get(i), means.get(i), Math.min(n, from + length));
            }
        }
        number(bits, 2, 5, 5);
        int one = bits.indexOf('1', here);
        int whole = (here + 7) / 8 * 8;
        if (one >= 0 && one < whole) {
            throw new Wrong(one);
        }
        if (bits.length() > whole) {
            throw new Wrong(whole);
        }
        readChannels = c;
        readSamples = new ArrayList<>();
        for (int i = 0; i < n * c; i++) {
            readSamples.add(lines.get(i % c).get(i / c));
        }
    }

    private void parseBlock(String bits, List<Integer> line, List<Integer> means, int to) {
        int from = line.size();
        int mean = meanOfLastFour(means);
        int f = number(bits, 2, 0, 4);
        int k = f == 4 ? 0 : number(bits, 3, 0, 15);
        while (line.size() < to) {
            int first = here;
            int u = f == 4 ? 0 : number(bits, k, 0, Integer.MAX_VALUE);
            int v = ahead(line, line.size(), f, mean) + (u % 2 == 0 ? u / 2 : -(u + 1) / 2);
            if (v != (short) v) {
                throw new Wrong(first);
            }
            line.add(v);
        }
        means.add(mean(line.subList(from, to)));
    }

    int value(int i) {
        return i >= 0 && i < readSamples.size() ? readSamples.get(i) : -99999;
    }

    boolean same() {
        return channels == readChannels && cut().equals(readSamples);
    }

    int count(int what) {
        return switch (what) {
            case 0 -> told.size();
            case 1 -> written.size();
            case 2 -> blocks.size();
            case 3 -> collected.size();
            case 4 -> readSamples.size();
            case 5 -> readChannels;
            default -> -1;
        };
    }
}

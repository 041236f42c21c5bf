/**
 * Sound without loss: samples are told ahead by the few before them, and what is left over is
 * written as short numbers, block by block; with a strict reader of all that can be written so.
 * All rows are made once, with the object, so that no call makes anything new.
 */
public final class BlockSound {
    public static final int BAD = -1, NONE = -99999;

    private static final int LOWEST_SAMPLE = -32768;
    private static final int HIGHEST_SAMPLE = 32767;
    private static final int MOST_CHANNELS = 2;
    private static final int MOST_EACH = 400;
    private static final int MOST_SAMPLES = MOST_CHANNELS * MOST_EACH;
    private static final int LONGEST_BLOCK = 64;
    private static final int MOST_BYTES = 3000;

    private static final int FIRST_BYTE = 83;
    private static final int SECOND_BYTE = 66;
    private static final int END_MARK = 5;

    /* With how many low bits each number of a stream is written. */
    private static final int CHANNELS_K = 2;
    private static final int BLOCK_K = 4;
    private static final int EACH_K = 6;
    private static final int FUNCTION_K = 2;
    private static final int K_K = 3;
    private static final int END_K = 2;

    private static final int FUNCTIONS_WITH_REST = 4;
    private static final int MEAN_ONLY = 4;
    private static final int LARGEST_K = 15;
    private static final int MEANS_BEHIND = 4;
    private static final int NOWHERE = -1;
    private static final int NO_LIMIT = 0x7fffffff;

    private final Sound told = new Sound(1, 16);
    private final StreamWriter writer = new StreamWriter();
    private final StreamReader reader = new StreamReader();
    private final ByteRow written = writer.bits.bytes;
    private final ByteRow collected = reader.bits.bytes;

    public BlockSound() {
    }

    public boolean settings(int channels, int block) {
        if (channels < 1 || channels > MOST_CHANNELS || block < 1 || block > LONGEST_BLOCK) {
            return false;
        }
        told.restart(channels, block);
        return true;
    }

    public int sample(int v) {
        return isSample(v) && told.append(v) ? told.size : BAD;
    }

    public int write() {
        writer.compose(told);
        return written.size;
    }

    public int at(int i) {
        return written.byteAt(i);
    }

    public int block(int i, int what) {
        if (i < 0 || i >= writer.blockCount) {
            return BAD;
        }
        switch (what) {
            case 0:
                return writer.sound.channelOf(i);
            case 1:
                return writer.functions[i];
            case 2:
                return writer.ks[i];
            case 3:
                return writer.bitsTaken(i);
            default:
                return BAD;
        }
    }

    public int cost(int i, int f, int k) {
        boolean known = i >= 0 && i < writer.blockCount;
        if (!known || f < 0 || f >= FUNCTIONS_WITH_REST || k < 0 || k > LARGEST_K) {
            return BAD;
        }
        return writer.bitsFor(i, f, k);
    }

    public boolean feed(int b) {
        return b >= 0 && b <= 255 && collected.append(b);
    }

    public int take() {
        collected.copy(written);
        return collected.size;
    }

    public int read() {
        int wrongBit = reader.parse();
        collected.clear();
        return wrongBit == NOWHERE ? reader.sound.size : -1 - wrongBit;
    }

    public int value(int i) {
        return i >= 0 && i < reader.sound.size ? reader.sound.sampleAt(i) : NONE;
    }

    public boolean same() {
        return told.hasSameWhole(reader.sound);
    }

    public int count(int what) {
        switch (what) {
            case 0:
                return told.size;
            case 1:
                return written.size;
            case 2:
                return writer.blockCount;
            case 3:
                return collected.size;
            case 4:
                return reader.sound.size;
            case 5:
                return reader.sound.channels;
            default:
                return BAD;
        }
    }

    private static boolean isSample(int v) {
        return v >= LOWEST_SAMPLE && v <= HIGHEST_SAMPLE;
    }

    /** How many bits the number v takes with k low bits. */
    private static int numberBits(int k, int v) {
        return (v >> k) + 1 + k;
    }

    /** A number with a sign as one without: 0, -1, 1, -2, .. become 0, 1, 2, 3, .. */
    private static int fold(int v) {
        return v < 0 ? -2 * v - 1 : 2 * v;
    }

    private static int unfold(int u) {
        return u % 2 == 0 ? u / 2 : -(u / 2) - 1;
    }

    private static int roundedMean(int sum, int m) {
        return m < 1 ? 0 : Math.floorDiv(sum + m / 2, m);
    }

    /** Samples of some channels by turns, and how they are cut into blocks, these by turns too. */
    private static final class Sound {
        private final int[] samples = new int[MOST_SAMPLES];
        private int channels;
        private int blockLength;
        private int size;

        Sound(int channels, int blockLength) {
            this.channels = channels;
            this.blockLength = blockLength;
        }

        void restart(int newChannels, int newBlockLength) {
            channels = newChannels;
            blockLength = newBlockLength;
            size = 0;
        }

        /** Room for samples that come in the order of blocks, not by turns. */
        void lay(int newChannels, int newBlockLength, int each) {
            restart(newChannels, newBlockLength);
            size = Math.min(each * newChannels, MOST_SAMPLES);
        }

        boolean append(int v) {
            if (size >= channels * MOST_EACH || size >= MOST_SAMPLES) {
                return false;
            }
            samples[size] = v;
            size++;
            return true;
        }

        void copyWhole(Sound other) {
            restart(other.channels, other.blockLength);
            size = other.wholeSize();
            System.arraycopy(other.samples, 0, samples, 0, size);
        }

        /** How many samples every channel has. */
        int each() {
            return channels < 1 ? 0 : size / channels;
        }

        int wholeSize() {
            return each() * channels;
        }

        boolean hasSameWhole(Sound other) {
            if (channels != other.channels || wholeSize() != other.size) {
                return false;
            }
            for (int place = 0; place < other.size; place++) {
                if (samples[place] != other.samples[place]) {
                    return false;
                }
            }
            return true;
        }

        int blockCount() {
            return blockLength < 1 ? 0 : (each() + blockLength - 1) / blockLength * channels;
        }

        int channelOf(int i) {
            return channels < 1 ? 0 : i % channels;
        }

        /** How many samples of its channel lie before block i. */
        int samplesBefore(int i) {
            return channels < 1 ? 0 : i / channels * blockLength;
        }

        int firstPlace(int i) {
            return samplesBefore(i) * channels + channelOf(i);
        }

        int blockSize(int i) {
            return Math.min(blockLength, each() - samplesBefore(i));
        }

        int sampleAt(int place) {
            return place < 0 || place >= size ? 0 : samples[place];
        }

        void setAt(int place, int v) {
            if (place >= 0 && place < size) {
                samples[place] = v;
            }
        }

        int toldAhead(int function, int place, int mean) {
            int x = sampleAt(place - channels);
            int y = sampleAt(place - 2 * channels);
            int z = sampleAt(place - 3 * channels);
            switch (function) {
                case 1:
                    return x;
                case 2:
                    return 2 * x - y;
                case 3:
                    return 3 * x - 3 * y + z;
                default:
                    return mean;
            }
        }
    }

    /** The means of the blocks of a sound, kept for all so that any block can be told ahead again. */
    private static final class Means {
        private final int[] ofBlocks = new int[MOST_SAMPLES];

        /** The mean of the last blocks before block i of its channel. */
        int ahead(int i, int channels) {
            int sum = 0;
            for (int back = 1; back <= MEANS_BEHIND; back++) {
                int earlier = i - back * channels;
                sum += earlier < 0 || earlier >= MOST_SAMPLES ? 0 : ofBlocks[earlier];
            }
            return roundedMean(sum, MEANS_BEHIND);
        }

        void settle(int i, Sound sound) {
            int m = sound.blockSize(i);
            int place = sound.firstPlace(i);
            int sum = 0;
            for (int j = 0; j < m; j++) {
                sum += sound.sampleAt(place + j * sound.channels);
            }
            if (i >= 0 && i < MOST_SAMPLES) {
                ofBlocks[i] = roundedMean(sum, m);
            }
        }
    }

    /** Bytes up to a limit. */
    private static final class ByteRow {
        private final byte[] row = new byte[MOST_BYTES];
        private int size;

        void clear() {
            size = 0;
        }

        boolean append(int b) {
            if (size >= MOST_BYTES) {
                return false;
            }
            row[size] = (byte) b;
            size++;
            return true;
        }

        int byteAt(int i) {
            return i < 0 || i >= size ? BAD : row[i] & 255;
        }

        void copy(ByteRow other) {
            size = other.size;
            System.arraycopy(other.row, 0, row, 0, size);
        }
    }

    /** Puts bits behind one another into a row of bytes. */
    private static final class BitWriter {
        private final ByteRow bytes = new ByteRow();
        private int pending;
        private int pendingBits;

        void restart() {
            bytes.clear();
            pending = 0;
            pendingBits = 0;
        }

        void putBit(int bit) {
            pending = pending * 2 + bit;
            pendingBits++;
            if (pendingBits == 8) {
                bytes.append(pending);
                pending = 0;
                pendingBits = 0;
            }
        }

        void putLowBits(int k, int v) {
            for (int shift = k - 1; shift >= 0; shift--) {
                putBit(v >> shift & 1);
            }
        }

        void putNumber(int k, int v) {
            int zeros = v >> k;
            for (int j = 0; j < zeros; j++) {
                putBit(0);
            }
            putBit(1);
            putLowBits(k, v);
        }

        void fillByte() {
            if (pendingBits > 0) {
                putLowBits(8 - pendingBits, 0);
            }
        }
    }

    /** Reads bits one behind another from a row of bytes. */
    private static final class BitReader {
        private final ByteRow bytes = new ByteRow();
        private int position;
        private int end;

        void restart() {
            position = 0;
            end = 8 * bytes.size;
        }

        int bitHere() {
            return position < end ? bytes.row[position >> 3] >> (7 - (position & 7)) & 1 : 0;
        }

        /** The next k bits as a number, or BAD where the bytes end before. */
        int nextLowBits(int k) {
            if (end - position < k) {
                return BAD;
            }
            int v = 0;
            for (int j = 0; j < k; j++) {
                v = v * 2 + bitHere();
                position++;
            }
            return v;
        }

        /** The next number with k low bits, or BAD where the bytes end before its last bit. */
        int nextNumber(int k) {
            int first = position;
            while (position < end && bitHere() == 0) {
                position++;
            }
            int zeros = position - first;
            position++; // behind the end if there was no 1, so that not even 0 low bits are left
            int low = nextLowBits(k);
            return low == BAD ? BAD : (zeros << k) + low;
        }
    }

    /** What was written: its samples, how each block was written, and the bytes. */
    private static final class StreamWriter {
        private final Sound sound = new Sound(1, 16);
        private final Means means = new Means();
        private final BitWriter bits = new BitWriter();
        private final int[] functions = new int[MOST_SAMPLES];
        private final int[] ks = new int[MOST_SAMPLES];
        private final int[] rests = new int[LONGEST_BLOCK];
        private int restCount;
        private int blockCount;

        void compose(Sound told) {
            sound.copyWhole(told);
            blockCount = Math.min(sound.blockCount(), MOST_SAMPLES);
            bits.restart();
            bits.putLowBits(8, FIRST_BYTE);
            bits.putLowBits(8, SECOND_BYTE);
            bits.putNumber(CHANNELS_K, sound.channels);
            bits.putNumber(BLOCK_K, sound.blockLength);
            bits.putNumber(EACH_K, sound.each());
            for (int i = 0; i < blockCount; i++) {
                means.settle(i, sound);
                choose(i);
                putBlock(i);
            }
            bits.putNumber(END_K, END_MARK);
            bits.fillByte();
        }

        /** Sets the function and k of block i; a later choice must be shorter, not as short. */
        private void choose(int i) {
            findRests(i, 0);
            if (zerosFor(0) == 0) {
                functions[i] = MEAN_ONLY;
                ks[i] = BAD;
                return;
            }
            int fewest = NO_LIMIT;
            for (int f = 0; f < FUNCTIONS_WITH_REST; f++) {
                findRests(i, f);
                for (int k = 0; k <= LARGEST_K; k++) {
                    int zeros = zerosFor(k);
                    int taken = bitsWith(f, k, zeros);
                    if (taken < fewest) {
                        fewest = taken;
                        functions[i] = f;
                        ks[i] = k;
                    }
                    if (zeros == 0) {
                        break; // a greater k has no 0s to save any more, and longer numbers
                    }
                }
            }
        }

        private void putBlock(int i) {
            int f = functions[i];
            bits.putNumber(FUNCTION_K, f);
            if (f == MEAN_ONLY) {
                return;
            }
            int k = ks[i];
            bits.putNumber(K_K, k);
            findRests(i, f);
            for (int j = 0; j < restCount; j++) {
                bits.putNumber(k, rests[j]);
            }
        }

        /** Puts what function f leaves over in block i, folded, into the row of rests. */
        private void findRests(int i, int f) {
            int mean = means.ahead(i, sound.channels);
            int place = sound.firstPlace(i);
            restCount = Math.min(sound.blockSize(i), LONGEST_BLOCK);
            for (int j = 0; j < restCount; j++) {
                rests[j] = fold(sound.sampleAt(place) - sound.toldAhead(f, place, mean));
                place += sound.channels;
            }
        }

        private int zerosFor(int k) {
            int zeros = 0;
            for (int j = 0; j < restCount; j++) {
                zeros += rests[j] >> k;
            }
            return zeros;
        }

        private int bitsWith(int f, int k, int zeros) {
            return numberBits(FUNCTION_K, f) + numberBits(K_K, k) + zeros + restCount * (1 + k);
        }

        int bitsFor(int i, int f, int k) {
            findRests(i, f);
            return bitsWith(f, k, zerosFor(k));
        }

        int bitsTaken(int i) {
            return functions[i] == MEAN_ONLY
                    ? numberBits(FUNCTION_K, MEAN_ONLY)
                    : bitsFor(i, functions[i], ks[i]);
        }
    }

    /** What was read, and a draft beside it, since a wrong stream must leave what was read. */
    private static final class StreamReader {
        private final Means means = new Means();
        private final BitReader bits = new BitReader();
        private Sound sound = new Sound(0, 0);
        private Sound draft = new Sound(0, 0);
        private int wrongBit = NOWHERE;

        /** The bit at which the bytes are wrong, or NOWHERE: then the sound is theirs. */
        int parse() {
            bits.restart();
            wrongBit = NOWHERE;
            parseHead();
            int blockCount = isRight() ? draft.blockCount() : 0;
            for (int i = 0; i < blockCount && isRight(); i++) {
                parseBlock(i);
            }
            nextWithin(END_K, END_MARK, END_MARK);
            parseFilling();
            if (isRight()) {
                Sound before = sound;
                sound = draft;
                draft = before;
            }
            return wrongBit;
        }

        private boolean isRight() {
            return wrongBit == NOWHERE;
        }

        private void parseHead() {
            nextByte(FIRST_BYTE);
            nextByte(SECOND_BYTE);
            int channels = nextWithin(CHANNELS_K, 1, MOST_CHANNELS);
            int blockLength = nextWithin(BLOCK_K, 1, LONGEST_BLOCK);
            int each = nextWithin(EACH_K, 0, MOST_EACH);
            if (isRight()) {
                draft.lay(channels, blockLength, each);
            }
        }

        private void parseBlock(int i) {
            int f = nextWithin(FUNCTION_K, 0, MEAN_ONLY);
            int k = f == MEAN_ONLY ? 0 : nextWithin(K_K, 0, LARGEST_K);
            int mean = means.ahead(i, draft.channels);
            int place = draft.firstPlace(i);
            int size = draft.blockSize(i);
            for (int j = 0; j < size && isRight(); j++) {
                int first = bits.position;
                int rest = f == MEAN_ONLY ? 0 : unfold(nextWithin(k, 0, NO_LIMIT));
                int v = draft.toldAhead(f, place, mean) + rest;
                if (isRight() && !isSample(v)) {
                    wrongBit = first;
                }
                if (isRight()) {
                    draft.setAt(place, v);
                }
                place += draft.channels;
            }
            if (isRight()) {
                means.settle(i, draft);
            }
        }

        private void parseFilling() {
            int byteEnd = bits.position + 7 & ~7;
            while (isRight() && bits.position < byteEnd) {
                if (bits.bitHere() != 0) {
                    wrongBit = bits.position;
                }
                bits.position++;
            }
            if (isRight() && bits.position < bits.end) {
                wrongBit = bits.position;
            }
        }

        private void nextByte(int due) {
            int first = bits.position;
            if (isRight()) {
                judge(first, bits.nextLowBits(8), due, due);
            }
        }

        /** The next number, or the lowest one where something is or was wrong. */
        private int nextWithin(int k, int lowest, int highest) {
            if (!isRight()) {
                return lowest;
            }
            int first = bits.position;
            int v = bits.nextNumber(k);
            judge(first, v, lowest, highest);
            return isRight() ? v : lowest;
        }

        private void judge(int first, int v, int lowest, int highest) {
            if (v == BAD) {
                wrongBit = bits.end;
            } else if (v < lowest || v > highest) {
                wrongBit = first;
            }
        }
    }
}

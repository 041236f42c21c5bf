import java.util.ArrayList;
import java.util.List;

/** One BlockSound and one Model, called alike; a call whose answers differ is told with all before. */
final class Both {
    static final int MOST_CALLS = 512;
    private final Check check;
    private final BlockSound x = new BlockSound();
    private final Model model = new Model();
    private final List<String> calls = new ArrayList<>();
    private boolean told;

    Both(Check check) {
        this.check = check;
    }

    int left() {
        return MOST_CALLS - calls.size();
    }

    private void compare(String call, long got, long want) {
        calls.add(call);
        check.due(call, got, want);
        if (got != want && !told) {
            told = true;
            System.out.println("  after " + calls);
        }
    }

    private void compare(String call, boolean got, boolean want) {
        compare(call, got ? 1L : 0L, want ? 1L : 0L);
    }

    void settings(int channels, int block) {
        String call = "settings(" + channels + ", " + block + ")";
        compare(call, x.settings(channels, block), model.settings(channels, block));
    }

    void sample(int v) {
        compare("sample(" + v + ")", x.sample(v), model.sample(v));
    }

    int write() {
        int bytes = model.write();
        compare("write()", x.write(), bytes);
        return bytes;
    }

    void at(int i) {
        compare("at(" + i + ")", x.at(i), model.at(i));
    }

    void block(int i, int what) {
        compare("block(" + i + ", " + what + ")", x.block(i, what), model.block(i, what));
    }

    void cost(int i, int f, int k) {
        compare("cost(" + i + ", " + f + ", " + k + ")", x.cost(i, f, k), model.cost(i, f, k));
    }

    void feed(int b) {
        compare("feed(" + b + ")", x.feed(b), model.feed(b));
    }

    void take() {
        compare("take()", x.take(), model.take());
    }

    int read() {
        int answer = model.read();
        compare("read()", x.read(), answer);
        return answer;
    }

    void value(int i) {
        compare("value(" + i + ")", x.value(i), model.value(i));
    }

    void same() {
        compare("same()", x.same(), model.same());
    }

    void count(int what) {
        compare("count(" + what + ")", x.count(what), model.count(what));
    }

    int writtenByte(int i) {
        return model.at(i);
    }

    int blocksWritten() {
        return model.count(2);
    }

    int samplesRead() {
        return model.count(4);
    }
}

/** Makes an object to which samples have been told. */
final class Told {
    private Told() {
    }

    static BlockSound of(int channels, int block, int... samples) {
        BlockSound x = new BlockSound();
        x.settings(channels, block);
        for (int v : samples) {
            x.sample(v);
        }
        return x;
    }
}

/** All that can be asked of an object, as texts. */
final class State {
    private State() {
    }

    static String told(BlockSound x) {
        return "told " + x.count(0) + ", same " + x.same();
    }

    static String written(BlockSound x) {
        StringBuilder text = new StringBuilder("written");
        for (int i = 0; i < x.count(1); i++) {
            text.append(' ').append(x.at(i));
        }
        for (int i = 0; i < x.count(2); i++) {
            text.append(" | ");
            for (int what = 0; what <= 3; what++) {
                text.append(x.block(i, what)).append(' ');
            }
            text.append(x.cost(i, 3, 1)).append(' ').append(x.cost(i, 0, 2));
        }
        return text.toString();
    }

    static String read(BlockSound x) {
        StringBuilder text = new StringBuilder("read " + x.count(5));
        for (int i = 0; i < x.count(4); i++) {
            text.append(' ').append(x.value(i));
        }
        return text.toString();
    }

    static String collected(BlockSound x) {
        return "collected " + x.count(3);
    }

    static String all(BlockSound x) {
        return told(x) + "; " + written(x) + "; " + collected(x) + "; " + read(x);
    }

    /** What writing and reading would show; this itself changes the object. */
    static String deeper(BlockSound x) {
        String text = "read() " + x.read() + ", " + read(x);
        x.write();
        text += ", " + written(x);
        x.take();
        return text + ", read() " + x.read() + ", " + read(x);
    }
}

import java.util.function.Function;

/** A call that is refused, or only asks, changes nothing; each other call only what it promises. */
public final class RefusedCallsTest {
    private static final int STATES = 7;
    private static Check check;

    /** A call and the answer that is due, whatever the state. */
    private record Refused(String name, Function<BlockSound, Object> call, Object answer) {
    }

    private static final int LEAST = Integer.MIN_VALUE;
    private static final int GREATEST = Integer.MAX_VALUE;

    private static final Refused[] REFUSED = {
        new Refused("settings(0, 16)", x -> x.settings(0, 16), false),
        new Refused("settings(3, 16)", x -> x.settings(3, 16), false),
        new Refused("settings(1, 0)", x -> x.settings(1, 0), false),
        new Refused("settings(2, 65)", x -> x.settings(2, 65), false),
        new Refused("settings(-1, -1)", x -> x.settings(-1, -1), false),
        new Refused("sample(32768)", x -> x.sample(32768), -1),
        new Refused("sample(-32769)", x -> x.sample(-32769), -1),
        new Refused("feed(256)", x -> x.feed(256), false),
        new Refused("feed(-1)", x -> x.feed(-1), false),
        new Refused("at(-1)", x -> x.at(-1), -1),
        new Refused("at, the greatest", x -> x.at(GREATEST), -1),
        new Refused("block(-1, 0)", x -> x.block(-1, 0), -1),
        new Refused("block, the greatest", x -> x.block(GREATEST, 3), -1),
        new Refused("block(0, 4)", x -> x.block(0, 4), -1),
        new Refused("block(0, -1)", x -> x.block(0, -1), -1),
        new Refused("cost(-1, 0, 0)", x -> x.cost(-1, 0, 0), -1),
        new Refused("cost, the greatest", x -> x.cost(GREATEST, 0, 0), -1),
        new Refused("cost(0, 4, 0)", x -> x.cost(0, 4, 0), -1),
        new Refused("cost(0, -1, 0)", x -> x.cost(0, -1, 0), -1),
        new Refused("cost(0, 0, 16)", x -> x.cost(0, 0, 16), -1),
        new Refused("cost(0, 0, -1)", x -> x.cost(0, 0, -1), -1),
        new Refused("value(-1)", x -> x.value(-1), -99999),
        new Refused("value, the least", x -> x.value(LEAST), -99999),
        new Refused("value, the greatest", x -> x.value(GREATEST), -99999),
        new Refused("count(6)", x -> x.count(6), -1),
        new Refused("count(-1)", x -> x.count(-1), -1),
    };

    public static void main(String[] args) {
        check = new Check("RefusedCallsTest");
        for (int state = 0; state < STATES; state++) {
            refusedChangesNothing(state);
            askingChangesNothing(state);
            eachCallChangesItsOwn(state);
        }
        check.end();
    }

    /** New; told; written; taken; read; read wrong with more fed; told and written anew since. */
    private static BlockSound in(int state) {
        BlockSound x = new BlockSound();
        if (state >= 1) {
            x.settings(2, 2);
            for (int v : new int[] {5, -5, 5, 7, 0, 32767, -32768}) {
                x.sample(v);
            }
        }
        if (state >= 2) {
            x.write();
        }
        if (state >= 3) {
            x.take();
        }
        if (state >= 4) {
            x.read();
        }
        if (state >= 5) {
            x.feed(83);
            x.feed(65);
            x.read();
            x.feed(83);
            x.feed(66);
            x.feed(0);
        }
        if (state >= 6) {
            x.settings(1, 3);
            x.sample(1);
            x.sample(-1);
            x.write();
            x.settings(2, 1);
            x.sample(9);
        }
        return x;
    }

    private static void alike(String what, String got, String want) {
        check.due(what, got.equals(want), true);
        if (!got.equals(want)) {
            System.out.println("  " + got + "\n  and not " + want);
        }
    }

    private static void refusedChangesNothing(int state) {
        for (Refused refused : REFUSED) {
            String what = "state " + state + ", " + refused.name;
            BlockSound x = in(state);
            String before = State.all(x);
            check.due(what, refused.call.apply(x).equals(refused.answer), true);
            alike(what + " changes nothing", State.all(x), before);
            BlockSound y = in(state);
            refused.call.apply(y);
            alike(what + " changes nothing to be seen later", State.deeper(y), State.deeper(in(state)));
        }
    }

    private static void askingChangesNothing(int state) {
        BlockSound x = in(state);
        String before = State.all(x);
        alike("asking once more in state " + state, State.all(x), before);
        BlockSound y = in(state);
        State.all(y);
        alike("asking before other calls in state " + state, State.deeper(y), State.deeper(in(state)));
    }

    private static void eachCallChangesItsOwn(int state) {
        leaves(state, "settings", x -> x.settings(2, 5), "written read collected");
        leaves(state, "sample", x -> x.sample(77), "written read collected");
        leaves(state, "write", x -> x.write(), "told read collected");
        leaves(state, "feed", x -> x.feed(7), "told written read");
        leaves(state, "take", x -> x.take(), "told written read");
        leaves(state, "read", x -> x.read(), "told written");
    }

    private static void leaves(int state, String name, Function<BlockSound, Object> call, String parts) {
        BlockSound x = in(state);
        BlockSound twin = in(state);
        call.apply(x);
        for (String part : parts.split(" ")) {
            alike("state " + state + ", " + name + " leaves what was " + part,
                    part(x, part), part(twin, part));
        }
    }

    private static String part(BlockSound x, String part) {
        return switch (part) {
            case "told" -> "told " + x.count(0);
            case "written" -> State.written(x);
            case "read" -> State.read(x);
            default -> State.collected(x) + ", read() " + x.read();
        };
    }
}

import java.util.ArrayList;
import java.util.Arrays;
import java.util.List;
import java.util.function.Supplier;
import java.util.function.ToLongFunction;

/**
 * Whether a call leaves an object as it was: of two that were made alike, one answers that call,
 * too, and then both answer like in all that can be asked. This takes several pairs: an object is
 * used for 512 calls at most.
 */
final class Unchanged {
    private static final int PROBES = 7;
    /** How many calls one probe makes at most, so that they stay under 512 with those that made it. */
    private static final int CALLS = 210;
    private static final long[][][] BY_STATE = new long[State.values().length][PROBES][];

    private Unchanged() {
    }

    /** In each state the call answers so, and changes nothing. */
    static void everywhere(ToLongFunction<AskedCocks> call, long due) {
        for (State state : State.values()) in(state, call, due);
    }

    static void in(State state, ToLongFunction<AskedCocks> call, long due) {
        for (int probe = 0; probe < PROBES; probe++) {
            AskedCocks cocks = state.made();
            Due.is("in " + state, call.applyAsLong(cocks), due);
            compare(probe, untouched(state, probe), answers(probe, cocks));
        }
    }

    /** Of objects that were made in another way. */
    static void of(Supplier<AskedCocks> made, ToLongFunction<AskedCocks> call, long due) {
        for (int probe = 0; probe < PROBES; probe++) {
            AskedCocks cocks = made.get();
            Due.is("the call", call.applyAsLong(cocks), due);
            compare(probe, answers(probe, made.get()), answers(probe, cocks));
        }
    }

    /** In each state, whatever it answers: the same twice, and nothing is changed. */
    static void byAsking(ToLongFunction<AskedCocks> call) {
        for (State state : State.values()) in(state, call, call.applyAsLong(state.made()));
    }

    /** Whether both are like in all that can be asked. */
    static void like(Supplier<AskedCocks> one, Supplier<AskedCocks> other) {
        for (int probe = 0; probe < PROBES; probe++) {
            compare(probe, answers(probe, one.get()), answers(probe, other.get()));
        }
    }

    private static long[] untouched(State state, int probe) {
        long[][] answers = BY_STATE[state.ordinal()];
        if (answers[probe] == null) answers[probe] = answers(probe, state.made());
        return answers[probe];
    }

    private static void compare(int probe, long[] due, long[] got) {
        Due.isTrue("fewer calls than " + CALLS + " in probe " + probe, got.length < CALLS);
        Due.isTrue("as if not called, in probe " + probe + " at " + Arrays.mismatch(due, got), Arrays.equals(due, got));
    }

    private static long[] answers(int probe, AskedCocks cocks) {
        List<Long> to = new ArrayList<>();
        switch (probe) {
            case 0: told(cocks, to); break;
            case 1: views(cocks, to); break;
            case 2: best(cocks, to); break;
            case 3: clues(cocks, to); break;
            case 4: undone(cocks, to); break;
            case 5: images(cocks, to); break;
            default: text(cocks, to);
        }
        return to.stream().mapToLong(answer -> answer).toArray();
    }

    private static void told(AskedCocks cocks, List<Long> to) {
        for (int what = 0; what < 7; what++) add(to, cocks.count(what));
        for (int x = 0; x < 24; x++) add(to, cocks.roof(x));
        for (int c = 0; c < 5; c++) {
            for (int what = 0; what < 8; what++) add(to, cocks.cock(c, what));
        }
        for (int p = 0; p < 4; p++) {
            for (int what = 0; what < 3; what++) add(to, cocks.one(p, what));
        }
        seen(cocks, to);
        add(to, cocks.trace());
    }

    private static void seen(AskedCocks cocks, List<Long> to) {
        for (int p = 0; p < 4; p++) {
            for (int c = 0; c < 5; c++) add(to, cocks.saw(c, p));
            add(to, cocks.known(p));
        }
        for (int what = 0; what < 5; what++) add(to, cocks.now(what));
    }

    private static void views(AskedCocks cocks, List<Long> to) {
        for (int c = 0; c < 5; c++) {
            for (int hour = 0; hour < 30; hour++) add(to, cocks.view(c, hour));
        }
    }

    private static void best(AskedCocks cocks, List<Long> to) {
        for (int hour = 0; hour < 30; hour++) add(to, cocks.blind(hour));
        for (int n = 0; n <= 60; n++) {
            for (int what = 0; what < 2; what++) add(to, cocks.most(n, what));
        }
    }

    private static void clues(AskedCocks cocks, List<Long> to) {
        for (int c = 0; c < 5; c++) {
            for (int x = 3; x < 24; x += 5) add(to, cocks.odds(c, x, c, c + 4, 3, 0));
        }
        for (int n = 1; n <= 8; n++) {
            for (int what = 0; what < 2; what++) {
                add(to, cocks.laws(what));
                add(to, cocks.ways(what));
                add(to, cocks.falses(what));
            }
            add(to, cocks.tryNext());
            add(to, cocks.faced(n, n % 2));
            add(to, cocks.met(n, 3));
        }
        add(to, cocks.forget());
    }

    private static void undone(AskedCocks cocks, List<Long> to) {
        for (int i = 0; i < 11; i++) {
            for (int what = 0; what < 5; what++) add(to, cocks.now(what));
            for (int x = 4; x < 11; x++) add(to, cocks.roof(x));
            for (int p = 0; p < 4; p++) add(to, cocks.saw(p, p));
            add(to, cocks.undo());
        }
    }

    private static void images(AskedCocks cocks, List<Long> to) {
        for (int image = 0; image < 2; image++) {
            add(to, cocks.back(image));
            for (int left = 0; left < 3; left++) {
                seen(cocks, to);
                add(to, cocks.roof(5));
                add(to, cocks.undo());
            }
        }
    }

    /** THE TEXT, read as it is, then what is left by it, then what another one tells. */
    private static void text(AskedCocks cocks, List<Long> to) {
        add(to, cocks.diocese());
        for (int x = 0; x < 24; x++) add(to, cocks.roof(x));
        for (int c = 0; c < 5; c++) {
            for (int what = 0; what < 4; what++) add(to, cocks.cock(c, what));
        }
        for (int p = 0; p < 4; p++) add(to, cocks.one(p, 1));
        for (int what = 0; what < 7; what++) add(to, cocks.count(what));
        add(to, cocks.trace());
        add(to, cocks.type(';'));
        add(to, cocks.diocese());
        add(to, cocks.clear());
        for (char c : "r8 9;c1 2 1 3;".toCharArray()) add(to, cocks.type(c));
        add(to, cocks.diocese());
        for (int x = 0; x < 24; x++) add(to, cocks.roof(x));
        for (int what = 0; what < 7; what++) add(to, cocks.count(what));
        add(to, cocks.back(0));
        add(to, cocks.back(1));
    }

    private static void add(List<Long> to, long answer) {
        to.add(answer);
    }
}

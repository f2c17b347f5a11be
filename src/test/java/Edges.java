import java.util.Set;
import java.util.TreeSet;

/**
 * A number that a call takes from a lowest to a highest one: both are taken; those next to them,
 * the farthest ones, and those that would be within if only some of their bits were looked at, are
 * refused, and change nothing. Each is a test of its own.
 */
final class Edges {
    interface Call {
        long of(AskedCocks cocks, int number);
    }

    private Edges() {
    }

    /** Both are taken in one state (the answer is no refusal), the others are refused in each state. */
    static void of(String number, int lowest, int highest, State takenIn, long refusal, Call call) {
        taken(number + " = " + lowest + ", the lowest", lowest, takenIn, refusal, call);
        taken(number + " = " + highest + ", the highest", highest, takenIn, refusal, call);
        for (int beyond : beyond(lowest, highest)) {
            Due.holds(number + " = " + beyond + " is refused, and changes nothing",
                () -> Unchanged.everywhere(cocks -> call.of(cocks, beyond), refusal));
        }
    }

    /** A COCK or one of PEOPLE: how many there are differs from state to state. */
    static void ofThose(String number, int inHalf, int inFull, long refusal, Call call) {
        of(number, 0, inFull - 1, State.FULL, refusal, call);
        Due.holds(number + " = 0 is refused where there is none, and changes nothing",
            () -> Unchanged.in(State.NOTHING, cocks -> call.of(cocks, 0), refusal));
        taken(number + " = " + (inHalf - 1) + ", the last of " + inHalf, inHalf - 1, State.HALF, refusal, call);
        Due.holds(number + " = " + inHalf + " is refused where there are " + inHalf + ", and changes nothing",
            () -> Unchanged.in(State.HALF, cocks -> call.of(cocks, inHalf), refusal));
    }

    private static void taken(String number, int taken, State state, long refusal, Call call) {
        Due.holds(number + ", is taken",
            () -> Due.isTrue("in " + state + " no refusal", call.of(state.made(), taken) != refusal));
    }

    private static Set<Integer> beyond(int lowest, int highest) {
        Set<Integer> beyond = new TreeSet<>();
        int[] all = {lowest - 1, highest + 1, highest + 2, -highest - 1, lowest + 32, highest + 32, lowest + 64,
            highest + 256, lowest + 256, highest + 65536, lowest + (1 << 24), Integer.MIN_VALUE, Integer.MAX_VALUE,
            Integer.MIN_VALUE + lowest, Integer.MIN_VALUE + highest};
        for (int number : all) {
            if (number < lowest || number > highest) beyond.add(number);
        }
        return beyond;
    }
}

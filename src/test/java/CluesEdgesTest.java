/** Promises 19 to 25 at their edges: a test for each sentence that names one. */
final class CluesEdgesTest {
    public static void main(String[] args) {
        faced();
        laws();
        lawsAtTheEdges();
        tryNext();
        met();
        ways();
        waysAtTheEdges();
        falses();
        forget();
        Due.end("CluesEdgesTest");
    }

    /** A new object, by which these twos of HOUR and side were FACED. */
    private static AskedCocks whoFaced(int... hoursAndSides) {
        AskedCocks cocks = new AskedCocks();
        for (int i = 0; i < hoursAndSides.length; i += 2) {
            Due.is("faced", cocks.faced(hoursAndSides[i], hoursAndSides[i + 1]), i / 2 + 1);
        }
        return cocks;
    }

    /** A new object, by which these twos of CELL and HOUR were MET. */
    private static AskedCocks whoMet(int... cellsAndHours) {
        AskedCocks cocks = new AskedCocks();
        for (int i = 0; i < cellsAndHours.length; i += 2) {
            Due.is("met", cocks.met(cellsAndHours[i], cellsAndHours[i + 1]), i / 2 + 1);
        }
        return cocks;
    }

    // ---- promise 19

    private static void faced() {
        Edges.of("Promise 19, faced: hour", 0, 29, State.HALF, -1, (cocks, hour) -> cocks.faced(hour, 0));
        Edges.of("Promise 19, faced: side", 0, 1, State.HALF, -1, (cocks, side) -> cocks.faced(0, side));
        Due.holds("Promise 19, faced: both numbers BAD", () -> Unchanged.everywhere(cocks -> cocks.faced(30, 2), -1));
        Due.holds("Promise 19, faced: the first: there is 1", () -> Due.is("faced(29, 1)", new AskedCocks().faced(29, 1), 1));
        Due.holds("Promise 19, faced: 6 at most: the sixth is taken, and counts", () -> {
            AskedCocks cocks = whoFaced(0, 0, 0, 0, 0, 0, 0, 0, 0, 0);
            Due.is("laws(0)", cocks.laws(0), 10);
            Due.is("faced(1, 1)", cocks.faced(1, 1), 6);
            Due.is("laws(0)", cocks.laws(0), 1);
            Due.is("count(3)", cocks.count(3), 6);
        });
        Due.holds("Promise 19, faced: the seventh is FULL, and nothing changes",
            () -> Unchanged.in(State.FULL, cocks -> cocks.faced(0, 0), -3));
        Due.holds("Promise 19, faced: the seventh is FULL, one that was told before, too",
            () -> Unchanged.in(State.FULL, cocks -> cocks.faced(29, 0), -3));
        Due.holds("Promise 19, faced: BAD ahead of FULL: the HOUR",
            () -> Unchanged.in(State.FULL, cocks -> cocks.faced(30, 0), -1));
        Due.holds("Promise 19, faced: BAD ahead of FULL: the side",
            () -> Unchanged.in(State.FULL, cocks -> cocks.faced(0, 2), -1));
        Due.holds("Promise 19, faced: FULL no more behind forget", () -> {
            AskedCocks cocks = State.FULL.made();
            cocks.forget();
            for (int n = 1; n <= 6; n++) Due.is("faced(0, 0)", cocks.faced(0, 0), n);
            Due.is("faced(0, 0)", cocks.faced(0, 0), -3);
        });
        Due.holds("Promise 19, faced: though MET is full", () -> {
            AskedCocks cocks = whoMet(0, 0, 0, 0, 0, 0, 0, 0, 0, 0, 0, 0);
            Due.is("faced(0, 0)", cocks.faced(0, 0), 1);
            Due.is("count(4)", cocks.count(4), 6);
        });
        Due.holds("Promise 19, faced: in an HOUR to come, where there is no COCK", () -> {
            AskedCocks cocks = whoFaced(29, 1);
            Due.is("now(0)", cocks.now(0), 0);
            Due.is("count(0)", cocks.count(0), 0);
        });
    }

    // ---- promise 20

    private static void lawsAre(String sentence, AskedCocks cocks, int many, int first) {
        Due.holds("Promise 20, laws: " + sentence, () -> {
            Due.is("laws(0)", cocks.laws(0), many);
            Due.is("laws(1)", cocks.laws(1), first);
        });
    }

    private static void laws() {
        Edges.of("Promise 20, laws: what", 0, 1, State.FULL, -1, (cocks, what) -> cocks.laws(what));
        Due.holds("Promise 20, laws: how many: nothing is changed", () -> Unchanged.byAsking(cocks -> cocks.laws(0)));
        Due.holds("Promise 20, laws: the first: nothing is changed", () -> Unchanged.byAsking(cocks -> cocks.laws(1)));
        lawsAre("nothing FACED: all 20, the first is 0", new AskedCocks(), 20, 0);
        lawsAre("one by which both can't be: none, NONE", whoFaced(5, 0, 5, 1), 0, -9);
        lawsAre("none of six: none, NONE", whoFaced(0, 0, 1, 0, 2, 1, 3, 0, 4, 1, 5, 1), 0, -9);
        lawsAre("the same told six times: as once", whoFaced(0, 1, 0, 1, 0, 1, 0, 1, 0, 1, 0, 1), 10, 10);
        lawsAre("both what is told first and what is told last", whoFaced(0, 0, 29, 1, 29, 1, 29, 1, 29, 1, 1, 1), 1, 1);
    }

    private static void lawsAtTheEdges() {
        lawsAre("the lowest SIDE and TURN alone", whoFaced(0, 0, 1, 0, 2, 0, 4, 0, 8, 0, 9, 0), 1, 0);
        lawsAre("the lowest SIDE, the highest TURN, alone", whoFaced(1, 0, 3, 0, 8, 0, 9, 1), 1, 9);
        lawsAre("the highest SIDE, the lowest TURN, alone", whoFaced(0, 1, 1, 1, 2, 1, 4, 1, 8, 1, 9, 1), 1, 10);
        lawsAre("the highest SIDE and TURN alone", whoFaced(1, 1, 3, 1, 8, 1, 9, 0), 1, 19);
        lawsAre("HOUR 0 is ahead of each turn", whoFaced(0, 0), 10, 0);
        lawsAre("HOUR 1: TURN 1 alone is behind one", whoFaced(0, 0, 1, 1), 1, 1);
        // the TURNS that turn in that HOUR for the 1st, 3rd .. time: how many, the first
        int[][] turning = {{1, 1}, {1, 2}, {2, 1}, {1, 4}, {2, 1}, {2, 2}, {2, 1}, {1, 8}, {3, 1}};
        for (int turn = 1; turn <= 9; turn++) {
            int[] due = turning[turn - 1];
            String sentence = "TURN " + turn + " turns in HOUR " + turn + ", not in the HOUR ahead, from SIDE ";
            lawsAre(sentence + 0, whoFaced(0, 0, turn - 1, 0, turn, 1), due[0], due[1]);
            lawsAre(sentence + 1, whoFaced(0, 1, turn - 1, 1, turn, 0), due[0], 10 + due[1]);
        }
        for (int hour = 1; hour < 30; hour++) {
            int each = hour;
            Due.holds("Promise 20, laws: HOUR " + hour + ": as many as have turned once, thrice .. till then", () -> {
                Due.is("from SIDE 0", whoFaced(0, 0, each, 1).laws(0), turnedIn(each));
                Due.is("from SIDE 1", whoFaced(0, 1, each, 0).laws(0), turnedIn(each));
            });
        }
    }

    /** How many TURNS have turned an odd number of times till that HOUR, turned by hand. */
    private static int turnedIn(int hour) {
        int turned = 0;
        for (int turn = 1; turn <= 9; turn++) {
            boolean isTurned = false;
            for (int h = turn; h <= hour; h += turn) isTurned = !isTurned;
            if (isTurned) turned++;
        }
        return turned;
    }

    // ---- promise 21

    private static void tries(String sentence, AskedCocks cocks, int due) {
        Due.holds("Promise 21, tryNext: " + sentence, () -> Due.is("tryNext()", cocks.tryNext(), due));
    }

    private static void tryNext() {
        Due.holds("Promise 21, tryNext: nothing is changed", () -> Unchanged.byAsking(AskedCocks::tryNext));
        tries("nothing FACED: HOUR 0, the first", new AskedCocks(), 0);
        tries("fewer than 2: of none NONE", whoFaced(5, 0, 5, 1), -9);
        tries("fewer than 2: of one NONE", whoFaced(0, 0, 1, 1), -9);
        tries("of two, parted by one: HOUR 9, of like ones the least", whoFaced(0, 0, 1, 0, 2, 0, 4, 0, 8, 0), 9);
        // TURN 2 and 3 from SIDE 1: 1 1 0 0 1 1 0 .. and 1 1 1 0 0 0 1 ..
        tries("of two, parted in more HOURS: 2, of like ones the least", whoFaced(0, 1, 1, 1, 3, 0), 2);
        // TURN 4 to 9 and 0 from SIDE 0: 1 in HOUR 4, 2 in 5, 3 in 6, 4 of 7 in 7
        tries("the greater part is least: HOUR 6 (4 of 7), ahead of 7 (4 of 7)", whoFaced(0, 0, 1, 0, 2, 0, 3, 0), 6);
        tries("by both sides alike: from SIDE 1", whoFaced(0, 1, 1, 1, 2, 1, 3, 1), 6);
        // TURN 2, 5, 6 and 7 from SIDE 0: in HOUR 15 turned 7, 3, 2 and 2 times
        tries("the latest HOUR that any can be, 15", whoFaced(1, 0, 4, 0, 7, 1), 15);
        Due.holds("Promise 21, tryNext: NONE, if there are fewer than 2, and only then (each two are parted)", () -> {
            for (int first = 0; first < 60; first++) {
                for (int second = first; second < 60; second++) {
                    AskedCocks cocks = whoFaced(first / 2, first % 2, second / 2, second % 2, 3, 1);
                    Due.is("NONE", cocks.tryNext() == -9 ? 1 : 0, cocks.laws(0) < 2 ? 1 : 0);
                }
            }
        });
        Due.holds("Promise 21, tryNext: no HOUR does better, none ahead of it as well", () -> {
            for (int first = 0; first < 60; first++) {
                for (int second = first + 1; second < 60; second++) tryIsBest(first, second);
            }
        });
    }

    private static void tryIsBest(int first, int second) {
        AskedCocks cocks = whoFaced(first / 2, first % 2, second / 2, second % 2);
        if (cocks.laws(0) < 2) return;
        int tried = cocks.tryNext();
        for (int hour = 0; hour < 30; hour++) {
            int worse = greaterPart(first, second, hour) - greaterPart(first, second, tried);
            Due.isTrue("HOUR " + hour + " is no better than " + tried, worse > 0 || worse == 0 && hour >= tried);
        }
    }

    private static int greaterPart(int first, int second, int hour) {
        int[] laws = new int[2];
        for (int side = 0; side <= 1; side++) {
            AskedCocks cocks = new AskedCocks();
            cocks.faced(first / 2, first % 2);
            cocks.faced(second / 2, second % 2);
            cocks.faced(hour, side);
            laws[side] = cocks.laws(0);
        }
        return Math.max(laws[0], laws[1]);
    }

    // ---- promise 22

    private static void met() {
        Edges.of("Promise 22, met: x", 0, 23, State.HALF, -1, (cocks, x) -> cocks.met(x, 0));
        Edges.of("Promise 22, met: hour", 0, 29, State.HALF, -1, (cocks, hour) -> cocks.met(0, hour));
        Due.holds("Promise 22, met: both numbers BAD", () -> Unchanged.everywhere(cocks -> cocks.met(24, 30), -1));
        Due.holds("Promise 22, met: the first: there is 1", () -> Due.is("met(23, 29)", new AskedCocks().met(23, 29), 1));
        Due.holds("Promise 22, met: 6 at most: the sixth is taken, and counts", () -> {
            AskedCocks cocks = whoMet(5, 0, 5, 0, 5, 0, 5, 0, 5, 0);
            Due.is("ways(0)", cocks.ways(0), 7);
            Due.is("met(5, 1)", cocks.met(5, 1), 6);
            Due.is("ways(0)", cocks.ways(0), 1);
            Due.is("count(4)", cocks.count(4), 6);
        });
        Due.holds("Promise 22, met: the seventh is FULL, and nothing changes",
            () -> Unchanged.in(State.FULL, cocks -> cocks.met(0, 0), -3));
        Due.holds("Promise 22, met: the seventh is FULL, one that was told before, too",
            () -> Unchanged.in(State.FULL, cocks -> cocks.met(5, 0), -3));
        Due.holds("Promise 22, met: BAD ahead of FULL: the CELL",
            () -> Unchanged.in(State.FULL, cocks -> cocks.met(24, 0), -1));
        Due.holds("Promise 22, met: BAD ahead of FULL: the HOUR",
            () -> Unchanged.in(State.FULL, cocks -> cocks.met(0, 30), -1));
        Due.holds("Promise 22, met: FULL no more behind forget", () -> {
            AskedCocks cocks = State.FULL.made();
            cocks.forget();
            for (int n = 1; n <= 6; n++) Due.is("met(0, 0)", cocks.met(0, 0), n);
            Due.is("met(0, 0)", cocks.met(0, 0), -3);
        });
        Due.holds("Promise 22, met: though FACED is full", () -> {
            AskedCocks cocks = whoFaced(0, 0, 0, 0, 0, 0, 0, 0, 0, 0, 0, 0);
            Due.is("met(0, 0)", cocks.met(0, 0), 1);
            Due.is("count(3)", cocks.count(3), 6);
        });
    }

    // ---- promise 23

    private static void waysAre(String sentence, AskedCocks cocks, int many, int first) {
        Due.holds("Promise 23, ways: " + sentence, () -> {
            Due.is("ways(0)", cocks.ways(0), many);
            Due.is("ways(1)", cocks.ways(1), first);
        });
    }

    private static void ways() {
        Edges.of("Promise 23, ways: what", 0, 1, State.HALF, -1, (cocks, what) -> cocks.ways(what));
        Due.holds("Promise 23, ways: how many: nothing is changed", () -> Unchanged.byAsking(cocks -> cocks.ways(0)));
        Due.holds("Promise 23, ways: the first: nothing is changed", () -> Unchanged.byAsking(cocks -> cocks.ways(1)));
        waysAre("nothing MET: all 168, the first is 0", new AskedCocks(), 168, 0);
        waysAre("in two CELLS in one HOUR: none, NONE", whoMet(5, 3, 6, 3), 0, -9);
        waysAre("the same told six times: as once", whoMet(9, 0, 9, 0, 9, 0, 9, 0, 9, 0, 9, 0), 7, 90);
        waysAre("both what is told first and what is told last", whoMet(9, 0, 9, 0, 9, 0, 9, 0, 9, 0, 10, 1), 1, 94);
        waysAre("none by what is told first alone", whoMet(8, 0, 9, 0, 9, 0, 9, 0, 9, 0, 10, 1), 0, -9);
    }

    private static void waysAtTheEdges() {
        waysAre("START 0, the lowest", whoMet(0, 0), 7, 0);
        waysAre("START 23, the highest", whoMet(23, 0), 7, 230);
        waysAre("SPEED -3, the lowest, from CELL 21", whoMet(21, 0, 0, 7), 1, 210);
        waysAre("SPEED -4 is none", whoMet(20, 0, 0, 5), 0, -9);
        waysAre("SPEED 3, the highest, from CELL 0", whoMet(0, 0, 21, 7), 1, 6);
        waysAre("SPEED 4 is none", whoMet(0, 0, 20, 5), 0, -9);
        waysAre("the last of all: from 23 by 3 it is in no other CELL", whoMet(23, 0, 23, 0), 7, 230);
        waysAre("START 24 is none: in CELL 0 in HOUR 8", whoMet(0, 8), 3, 3);
        waysAre("START -1 is none: in CELL 23 in HOUR 8", whoMet(23, 8), 3, 75);
        waysAre("START 24 is none: by -3 to 21 and 18", whoMet(21, 1, 18, 2), 0, -9);
        waysAre("START -1 is none: by 3 to 2 and 5", whoMet(2, 1, 5, 2), 0, -9);
        waysAre("HOUR 29, CELL 0: who stays", whoMet(0, 29), 1, 3);
        waysAre("HOUR 29, CELL 23: who stays", whoMet(23, 29), 1, 233);
        waysAre("HOUR 1, CELL 0: from 0, 1, 2, 3", whoMet(0, 1), 4, 3);
        waysAre("HOUR 1, CELL 23: from 20, 21, 22, 23", whoMet(23, 1), 4, 206);
        waysAre("though it is away in HOURS between or later", whoMet(22, 0, 23, 1), 1, 224);
    }

    // ---- promise 24

    private static void falsesAre(String sentence, AskedCocks cocks, int fewest, int which) {
        Due.holds("Promise 24, falses: " + sentence, () -> {
            Due.is("falses(0)", cocks.falses(0), fewest);
            Due.is("falses(1)", cocks.falses(1), which);
        });
    }

    private static void falses() {
        Edges.of("Promise 24, falses: what", 0, 1, State.FULL, -1, (cocks, what) -> cocks.falses(what));
        Due.holds("Promise 24, falses: how many: nothing is changed", () -> Unchanged.byAsking(cocks -> cocks.falses(0)));
        Due.holds("Promise 24, falses: which: nothing is changed", () -> Unchanged.byAsking(cocks -> cocks.falses(1)));
        falsesAre("nothing MET: 0, by the first of all", new AskedCocks(), 0, 0);
        falsesAre("one MET: 0, by the first", whoMet(23, 29), 0, 233);
        falsesAre("none false of six", whoMet(3, 0, 5, 1, 7, 2, 9, 3, 11, 4, 21, 9), 0, 35);
        falsesAre("one of six, the first told", whoMet(4, 0, 5, 1, 7, 2, 9, 3, 11, 4, 21, 9), 1, 35);
        falsesAre("one of six, the last told", whoMet(3, 0, 5, 1, 7, 2, 9, 3, 11, 4, 20, 9), 1, 35);
        falsesAre("five of six, the most: six CELLS in one HOUR, by the first", whoMet(9, 0, 8, 0, 7, 0, 6, 0, 5, 0, 4, 0), 5, 40);
        falsesAre("one of two, by the first of all by which it is so few", whoMet(9, 0, 8, 0), 1, 80);
        falsesAre("one of two in HOUR 29: who stays in the first CELL", whoMet(23, 29, 0, 29), 1, 3);
        falsesAre("the fewest, though a later way: three alike of five", whoMet(2, 0, 3, 0, 20, 0, 20, 0, 20, 0), 2, 200);
        falsesAre("the last START and SPEED by which any can be", whoMet(23, 0, 23, 0, 23, 0, 0, 5), 1, 230);
        falsesAre("START 24 is none: one of two is false", whoMet(21, 1, 18, 2), 1, 126);
        Due.holds("Promise 24, falses: what is false stays MET", () -> {
            AskedCocks cocks = whoMet(9, 0, 8, 0);
            Due.is("falses(0)", cocks.falses(0), 1);
            Due.is("count(4)", cocks.count(4), 2);
            Due.is("ways(0)", cocks.ways(0), 0);
        });
    }

    // ---- promise 25

    private static void forget() {
        Due.holds("Promise 25, forget: nothing FACED, MET: 0, and nothing changes",
            () -> Unchanged.in(State.NOTHING, AskedCocks::forget, 0));
        Due.holds("Promise 25, forget: 12, both full, then 0", () -> {
            AskedCocks cocks = State.FULL.made();
            Due.is("forget()", cocks.forget(), 12);
            Due.is("forget()", cocks.forget(), 0);
        });
        Due.holds("Promise 25, forget: FACED alone", () -> Due.is("forget()", whoFaced(1, 1).forget(), 1));
        Due.holds("Promise 25, forget: MET alone", () -> Due.is("forget()", whoMet(1, 1, 2, 2).forget(), 2));
        Due.holds("Promise 25, forget: then there are all LAWS and all WAYS", () -> {
            AskedCocks cocks = State.FULL.made();
            cocks.forget();
            int[] due = {5, 4, 4, 0, 0, 10, 150};
            for (int what = 0; what < due.length; what++) Due.is("count(" + what + ")", cocks.count(what), due[what]);
            Due.is("laws(0)", cocks.laws(0), 20);
            Due.is("laws(1)", cocks.laws(1), 0);
            Due.is("tryNext()", cocks.tryNext(), 0);
            Due.is("ways(0)", cocks.ways(0), 168);
            Due.is("ways(1)", cocks.ways(1), 0);
            Due.is("falses(0)", cocks.falses(0), 0);
            Due.is("falses(1)", cocks.falses(1), 0);
        });
        Due.holds("Promise 25, forget: all of it, whatever it was", () -> {
            for (State state : State.values()) {
                Unchanged.like(() -> forgotten(state), () -> {
                    AskedCocks cocks = forgotten(state);
                    for (int n = 0; n < 6; n++) cocks.faced(n, 0);
                    for (int n = 0; n < 5; n++) cocks.met(n, 0);
                    Due.is("forget()", cocks.forget(), 11);
                    return cocks;
                });
            }
        });
        Due.holds("Promise 25, forget: nothing else is changed", () -> {
            for (State state : State.values()) {
                Due.is("now(0) in " + state, forgotten(state).now(0), state.made().now(0));
                Due.is("now(3) in " + state, forgotten(state).now(3), state.made().now(3));
                Due.is("trace() in " + state, forgotten(state).trace(), state.made().trace());
                Due.is("back(1) in " + state, forgotten(state).back(1), state.made().back(1));
                Due.is("undo() in " + state, forgotten(state).undo(), state.made().undo());
                Due.is("clear() in " + state, forgotten(state).clear(), state.made().clear());
            }
        });
    }

    private static AskedCocks forgotten(State state) {
        AskedCocks cocks = state.made();
        cocks.forget();
        return cocks;
    }
}

/** Promises 5 to 9 at their edges: a test for each sentence that names one. */
final class ToldEdgesTest {
    private static final int ALL_HOURS = (1 << 30) - 1;

    public static void main(String[] args) {
        roof();
        cock();
        eyeAndSide();
        telling();
        one();
        saw();
        sawWhom();
        known();
        Due.end("ToldEdgesTest");
    }

    /** All HOURS there are go by. */
    private static AskedCocks atTheEnd(int items, String text) {
        AskedCocks cocks = Due.told(items, text);
        for (int n = 0; n < 4; n++) cocks.hours(9);
        Due.is("now(0)", cocks.now(0), 30);
        return cocks;
    }

    private static void roof() {
        Edges.of("Promise 5, roof: x", 0, 23, State.NOTHING, -1, (cocks, x) -> cocks.roof(x));
        Due.holds("Promise 5, roof: nothing is changed", () -> Unchanged.byAsking(cocks -> cocks.roof(5)));
        Due.holds("Promise 5, roof: 0 at first", () -> Due.is("roof(23)", new AskedCocks().roof(23), 0));
        Due.holds("Promise 5, roof: 0, the lowest, and 9, the highest, as told", () -> {
            AskedCocks cocks = Due.told(2, "r0 9;r23 0;");
            Due.is("roof(0)", cocks.roof(0), 9);
            Due.is("roof(23)", cocks.roof(23), 0);
        });
        Due.holds("Promise 5, roof: as BUILT, as UNDONE", () -> {
            AskedCocks cocks = Due.told(1, "r23 4;");
            cocks.builds(23, 9);
            Due.is("roof(23)", cocks.roof(23), 9);
            Due.is("roof(22)", cocks.roof(22), 0);
            cocks.undo();
            Due.is("roof(23)", cocks.roof(23), 4);
        });
    }

    private static void cock() {
        Edges.of("Promise 6, cock: what", 0, 7, State.FULL, -1, (cocks, what) -> cocks.cock(0, what));
        for (int what = 0; what <= 7; what++) {
            int asked = what;
            Edges.ofThose("Promise 6, cock: what = " + what + ", c", 3, 5, -1, (cocks, c) -> cocks.cock(c, asked));
            Due.holds("Promise 6, cock: what = " + what + ": nothing is changed",
                () -> Unchanged.byAsking(cocks -> cocks.cock(0, asked)));
        }
        Due.holds("Promise 6, cock: both numbers BAD", () -> Unchanged.everywhere(cocks -> cocks.cock(5, 8), -1));
        Due.holds("Promise 6, cock: 0 to 3, as told, the HOURS gone by, ROOFS built, the COCK ASKED", () -> {
            AskedCocks cocks = atTheEnd(1, "c23 5 1 9;");
            cocks.builds(23, 9);
            cocks.asks(0);
            int[] due = {23, 5, 1, 9, 14, 0, 1, 0};
            for (int what = 0; what < due.length; what++) Due.is("cock(0, " + what + ")", cocks.cock(0, what), due[what]);
        });
        Due.holds("Promise 6, cock: 6, whether it was ASKED: 0, 1, and 0 when it is UNDONE", () -> {
            AskedCocks cocks = State.HALF.made();
            Due.is("cock(0, 6)", cocks.cock(0, 6), 0);
            Due.is("cock(1, 6)", cocks.cock(1, 6), 1);
            Due.is("cock(2, 6)", cocks.cock(2, 6), 0);
            for (int i = 0; i < 4; i++) cocks.undo();
            Due.is("cock(1, 6)", cocks.cock(1, 6), 0);
            for (int c = 0; c < 5; c++) Due.is("cock(" + c + ", 6)", State.FULL.made().cock(c, 6), 1);
        });
    }

    private static void eyeAndSide() {
        Due.holds("Promise 6, cock: EYE: the lowest, ROOF 0 and RISE 1",
            () -> Due.is("cock(0, 4)", Due.told(1, "c0 1 0 0;").cock(0, 4), 1));
        Due.holds("Promise 6, cock: EYE: the highest, ROOF 9 and RISE 5",
            () -> Due.is("cock(0, 4)", Due.told(2, "c23 5 0 0;r23 9;").cock(0, 4), 14));
        Due.holds("Promise 6, cock: EYE: by the ROOF as it is BUILT", () -> {
            AskedCocks cocks = Due.told(2, "c23 5 0 0;r23 9;");
            cocks.builds(23, 0);
            Due.is("cock(0, 4)", cocks.cock(0, 4), 5);
            cocks.builds(22, 9);
            Due.is("cock(0, 4)", cocks.cock(0, 4), 5);
        });
        for (int turn = 0; turn <= 9; turn++) {
            int each = turn;
            Due.holds("Promise 6, cock: a TURN of " + turn + " from HOUR 0 to 30, from both SIDES", () -> {
                AskedCocks cocks = Due.told(2, "c0 1 0 " + each + ";c0 1 1 " + each + ";");
                int faces = 0;
                for (int hour = 0; hour <= 30; hour++) {
                    if (each > 0 && hour > 0 && hour % each == 0) faces = 1 - faces;
                    Due.is("cock(0, 5) in " + hour, cocks.cock(0, 5), faces);
                    Due.is("cock(1, 5) in " + hour, cocks.cock(1, 5), 1 - faces);
                    cocks.hours(1);
                }
            });
        }
    }

    private static void telling() {
        Due.holds("Promise 6, cock: TELLING: 0 of one that SAW none",
            () -> Due.is("cock(0, 7)", atTheEnd(2, "c0 1 0 0;p5 3;").cock(0, 7), 0));
        Due.holds("Promise 6, cock: TELLING: 120, four in each of 30 HOURS", () -> {
            AskedCocks cocks = atTheEnd(5, "c0 1 1 0;p5 3;p5 3;p6 3;p23 3;");
            Due.is("cock(0, 7)", cocks.cock(0, 7), 120);
            Due.is("asks(0)", cocks.asks(0), 120);
            Due.is("cock(0, 7), ASKED", cocks.cock(0, 7), 120);
        });
        Due.holds("Promise 6, cock: TELLING: each for itself, what others SAW, too", () -> {
            AskedCocks cocks = Due.told(4, "c0 1 1 0;c1 1 1 0;c9 1 1 0;p5 3;");
            cocks.hours(3);
            Due.is("cock(0, 7)", cocks.cock(0, 7), 3);
            Due.is("cock(1, 7)", cocks.cock(1, 7), 3);
            Due.is("cock(2, 7)", cocks.cock(2, 7), 0);
        });
    }

    private static void one() {
        Edges.of("Promise 7, one: what", 0, 2, State.FULL, -1000000, (cocks, what) -> cocks.one(0, what));
        for (int what = 0; what <= 2; what++) {
            int asked = what;
            Edges.ofThose("Promise 7, one: what = " + what + ", p", 2, 4, -1000000, (cocks, p) -> cocks.one(p, asked));
            Due.holds("Promise 7, one: what = " + what + ": nothing is changed",
                () -> Unchanged.byAsking(cocks -> cocks.one(0, asked)));
        }
        Due.holds("Promise 7, one: both numbers BAD", () -> Unchanged.everywhere(cocks -> cocks.one(4, 3), -1000000));
        Due.holds("Promise 7, one: SPEED -1 is no refusal",
            () -> Due.is("one(0, 1)", Due.told(1, "p0 2;").one(0, 1), -1));
        walks("p0 2;", "down from CELL 0: away in HOUR 1", 0, -9, -9);
        walks("p1 2;", "down to CELL 0, then away", 1, 0, -9);
        walks("p5 1;", "by -2, past 0 to -1: away", 5, 3, 1, -9);
        walks("p6 0;", "by -3, to 0, then to -3: away", 6, 3, 0, -9);
        walks("p23 4;", "up from CELL 23: away in HOUR 1", 23, -9, -9);
        walks("p22 4;", "up to CELL 23, then away", 22, 23, -9);
        walks("p18 5;", "by 2, past 23 to 24: away", 18, 20, 22, -9);
        walks("p17 6;", "by 3, to 23, then to 26: away", 17, 20, 23, -9);
        Due.holds("Promise 7, one: the CELL in HOUR 30, the last: who stays stays", () -> {
            AskedCocks cocks = atTheEnd(4, "p0 3;p23 3;p0 4;p23 0;");
            int[] due = {0, 23, -9, -9};
            for (int p = 0; p < 4; p++) Due.is("one(" + p + ", 2)", cocks.one(p, 2), due[p]);
            for (int p = 0; p < 4; p++) Due.is("one(" + p + ", 0)", cocks.one(p, 0), p % 2 == 0 ? 0 : 23);
        });
    }

    private static void walks(String text, String sentence, int... due) {
        Due.holds("Promise 7, one: the CELL in the HOUR: " + sentence, () -> {
            AskedCocks cocks = Due.told(1, text);
            for (int hour = 0; hour < due.length; hour++) {
                Due.is("one(0, 2) in " + hour, cocks.one(0, 2), due[hour]);
                cocks.hours(1);
            }
        });
    }

    private static void saw() {
        Edges.ofThose("Promise 8, saw: c", 3, 5, -1, (cocks, c) -> cocks.saw(c, 0));
        Edges.ofThose("Promise 8, saw: p", 2, 4, -1, (cocks, p) -> cocks.saw(0, p));
        Due.holds("Promise 8, saw: both numbers BAD", () -> Unchanged.everywhere(cocks -> cocks.saw(5, 4), -1));
        Due.holds("Promise 8, saw: COCKS, but nobody", () -> Due.is("saw(0, 0)", Due.told(1, "c0 1 0 0;").saw(0, 0), -1));
        Due.holds("Promise 8, saw: PEOPLE, but no COCKS", () -> Due.is("saw(0, 0)", Due.told(1, "p0 0;").saw(0, 0), -1));
        Due.holds("Promise 8, saw: nothing is changed", () -> Unchanged.byAsking(cocks -> cocks.saw(0, 0)));
        Due.holds("Promise 8, saw: nobody in HOUR 0, ahead of all HOURS",
            () -> Due.is("saw(0, 0)", Due.told(2, "c0 1 1 0;p1 3;").saw(0, 0), 0));
        Due.holds("Promise 8, saw: HOUR 0 alone, its first bit", () -> {
            AskedCocks cocks = Due.told(2, "c0 1 1 0;p1 3;");
            cocks.hours(1);
            Due.is("saw(0, 0)", cocks.saw(0, 0), 1);
        });
        Due.holds("Promise 8, saw: all HOURS, up to 29",
            () -> Due.is("saw(0, 0)", atTheEnd(2, "c0 1 1 0;p23 3;").saw(0, 0), ALL_HOURS));
        Due.holds("Promise 8, saw: HOUR 29 alone, its last bit",
            () -> Due.is("saw(0, 0)", atTheEnd(3, "c0 1 1 0;p23 3;s23 0 28;").saw(0, 0), 1 << 29));
        Due.holds("Promise 8, saw: the fifth COCK, the fourth of PEOPLE", () -> {
            AskedCocks cocks = atTheEnd(9, "c0 1 0 0;c0 1 0 0;c0 1 0 0;c0 1 0 0;c5 1 1 0;p1 3;p2 3;p3 3;p7 3;");
            Due.is("saw(4, 3)", cocks.saw(4, 3), ALL_HOURS);
            for (int p = 0; p < 4; p++) Due.is("saw(0, " + p + ")", cocks.saw(0, p), 0);
            for (int p = 0; p < 3; p++) Due.is("saw(4, " + p + ")", cocks.saw(4, p), 0);
        });
    }

    private static void sawWhom() {
        Due.holds("Promise 8, saw: nobody in its own CELL, facing either side", () -> {
            AskedCocks cocks = atTheEnd(3, "c7 5 0 0;c7 5 1 0;p7 3;");
            Due.is("saw(0, 0)", cocks.saw(0, 0), 0);
            Due.is("saw(1, 0)", cocks.saw(1, 0), 0);
        });
        Due.holds("Promise 8, saw: in the CELLS next to it, on the side that it faces", () -> {
            AskedCocks cocks = atTheEnd(4, "c7 1 0 0;c7 1 1 0;p6 3;p8 3;");
            Due.is("saw(0, 0)", cocks.saw(0, 0), ALL_HOURS);
            Due.is("saw(0, 1)", cocks.saw(0, 1), 0);
            Due.is("saw(1, 0)", cocks.saw(1, 0), 0);
            Due.is("saw(1, 1)", cocks.saw(1, 1), ALL_HOURS);
        });
        Due.holds("Promise 8, saw: who is away no more: up to the HOUR in CELL 0, up to that in CELL 23", () -> {
            AskedCocks cocks = atTheEnd(4, "c12 1 0 0;c12 1 1 0;p2 2;p21 4;");
            Due.is("saw(0, 0)", cocks.saw(0, 0), 7);
            Due.is("saw(1, 1)", cocks.saw(1, 1), 7);
        });
        Due.holds("Promise 8, saw: by a TURN of 9: from HOUR 9 to 17, and from 27 on",
            () -> Due.is("saw(0, 0)", atTheEnd(2, "c5 1 0 9;p6 3;").saw(0, 0), 0x1FF << 9 | 7 << 27));
        Due.holds("Promise 8, saw: no more from the HOUR in which it was ASKED", () -> {
            AskedCocks cocks = Due.told(2, "c0 1 1 0;p1 3;");
            cocks.hours(2);
            cocks.asks(0);
            cocks.hours(9);
            Due.is("saw(0, 0)", cocks.saw(0, 0), 3);
        });
        Due.holds("Promise 8, saw: nobody, if it was ASKED in HOUR 0", () -> {
            AskedCocks cocks = Due.told(2, "c0 1 1 0;p1 3;");
            cocks.asks(0);
            cocks.hours(9);
            Due.is("saw(0, 0)", cocks.saw(0, 0), 0);
        });
        Due.holds("Promise 8, saw: through SMOKE between, not in it", () -> {
            AskedCocks cocks = atTheEnd(5, "c0 1 1 0;p4 3;p5 3;p6 3;s5 0 29;");
            Due.is("saw(0, 0)", cocks.saw(0, 0), ALL_HOURS);
            Due.is("saw(0, 1)", cocks.saw(0, 1), 0);
            Due.is("saw(0, 2)", cocks.saw(0, 2), ALL_HOURS);
        });
        Due.holds("Promise 8, saw: from SMOKE in its own CELL",
            () -> Due.is("saw(0, 0)", atTheEnd(3, "c0 1 1 0;p4 3;s0 0 29;").saw(0, 0), ALL_HOURS));
        Due.holds("Promise 8, saw: two in one CELL, both", () -> {
            AskedCocks cocks = atTheEnd(3, "c0 1 1 0;p4 3;p4 3;");
            Due.is("saw(0, 0)", cocks.saw(0, 0), ALL_HOURS);
            Due.is("saw(0, 1)", cocks.saw(0, 1), ALL_HOURS);
        });
    }

    private static void known() {
        Edges.ofThose("Promise 9, known: p", 2, 4, -1, (cocks, p) -> cocks.known(p));
        Due.holds("Promise 9, known: nothing is changed", () -> Unchanged.byAsking(cocks -> cocks.known(0)));
        Due.holds("Promise 9, known: nothing, where no COCK was ASKED",
            () -> Due.is("known(0)", atTheEnd(2, "c0 1 1 0;p1 3;").known(0), 0));
        Due.holds("Promise 9, known: nothing, where there is no COCK",
            () -> Due.is("known(0)", atTheEnd(1, "p1 3;").known(0), 0));
        Due.holds("Promise 9, known: all HOURS, 0 to 29", () -> {
            AskedCocks cocks = atTheEnd(2, "c0 1 1 0;p1 3;");
            cocks.asks(0);
            Due.is("known(0)", cocks.known(0), ALL_HOURS);
        });
        Due.holds("Promise 9, known: by all COCKS that were ASKED, the fifth, too, by no other", () -> {
            AskedCocks cocks = Due.told(6, "c5 1 1 1;c0 1 0 0;c0 1 0 0;c5 1 1 0;c5 1 0 1;p7 3;");
            cocks.hours(4);
            cocks.asks(4);
            Due.is("known(0)", cocks.known(0), Due.bits(1, 3));
            cocks.asks(1);
            Due.is("known(0)", cocks.known(0), Due.bits(1, 3));
            cocks.asks(0);
            Due.is("known(0)", cocks.known(0), Due.bits(0, 1, 2, 3));
            cocks.undo();
            Due.is("known(0)", cocks.known(0), Due.bits(1, 3));
        });
    }
}

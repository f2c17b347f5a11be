/** Promises 10 to 14 at their edges: a test for each sentence that names one. */
final class DoneEdgesTest {
    private static final int ALL_HOURS = (1 << 30) - 1;
    /** Five parts behind walls, with a COCK each; one walks past all: each COCK alone SAW two HOURS. */
    private static final String PARTS = "c0 1 1 0;c4 1 1 0;c8 1 1 0;c12 1 1 0;c16 1 1 0;"
        + "r2 9;r6 9;r10 9;r14 9;r18 9;p1 4;";

    public static void main(String[] args) {
        hours();
        hoursAtTheEnd();
        builds();
        asks();
        undo();
        undoTen();
        undoHours();
        now();
        cover();
        coverOfLikeOnes();
        Due.end("DoneEdgesTest");
    }

    private static AskedCocks inHour(int hour) {
        AskedCocks cocks = Due.told(2, "c0 1 1 0;p5 3;");
        while (cocks.now(0) + 9 <= hour) cocks.hours(9);
        if (cocks.now(0) < hour) cocks.hours(hour - cocks.now(0));
        Due.is("now(0)", cocks.now(0), hour);
        return cocks;
    }

    // ---- promise 10

    private static void hours() {
        Edges.of("Promise 10, hours: n", 1, 9, State.HALF, -1, (cocks, n) -> cocks.hours(n));
        Due.holds("Promise 10, hours: where there is nobody, they go by, too",
            () -> Due.is("hours(9)", new AskedCocks().hours(9), 9));
        for (int n = 1; n <= 9; n++) {
            int gone = n;
            Due.holds("Promise 10, hours: " + n + " of them, each as it is, and no further", () -> {
                AskedCocks cocks = inHour(3);
                Due.is("hours(" + gone + ")", cocks.hours(gone), 3 + gone);
                Due.is("now(0)", cocks.now(0), 3 + gone);
                Due.is("saw(0, 0)", cocks.saw(0, 0), (1 << 3 + gone) - 1);
                Due.is("undo()", cocks.undo(), 1);
                Due.is("now(0)", cocks.now(0), 3);
            });
        }
    }

    private static void hoursAtTheEnd() {
        for (int n = 1; n <= 9; n++) {
            int left = n;
            Due.holds("Promise 10, hours: 9, where only " + n + " are left till HOUR 30: as many as there are", () -> {
                AskedCocks cocks = inHour(30 - left);
                Due.is("hours(9)", cocks.hours(9), 30);
                Due.is("saw(0, 0)", cocks.saw(0, 0), ALL_HOURS);
                Due.is("hours(1)", cocks.hours(1), -2);
            });
        }
        Due.holds("Promise 10, hours: 9 from HOUR 20: all of them, to 29", () -> {
            AskedCocks cocks = inHour(20);
            Due.is("hours(9)", cocks.hours(9), 29);
            Due.is("saw(0, 0)", cocks.saw(0, 0), (1 << 29) - 1);
            Due.is("hours(1)", cocks.hours(1), 30);
        });
        Due.holds("Promise 10, hours: STATE in HOUR 30, the fewest, and nothing changes",
            () -> Unchanged.in(State.FULL, cocks -> cocks.hours(1), -2));
        Due.holds("Promise 10, hours: STATE in HOUR 30, the most, and nothing changes",
            () -> Unchanged.in(State.FULL, cocks -> cocks.hours(9), -2));
        Due.holds("Promise 10, hours: BAD ahead of STATE: 10 in HOUR 30",
            () -> Unchanged.in(State.FULL, cocks -> cocks.hours(10), -1));
        Due.holds("Promise 10, hours: BAD ahead of STATE: 0 in HOUR 30",
            () -> Unchanged.in(State.FULL, cocks -> cocks.hours(0), -1));
        Due.holds("Promise 10, hours: STATE no more, if they are UNDONE", () -> {
            AskedCocks cocks = inHour(30);
            Due.is("hours(1)", cocks.hours(1), -2);
            cocks.undo();
            Due.is("hours(1)", cocks.hours(1), 28);
        });
        Due.holds("Promise 10, hours: none SEES what the ROOFS hide in that HOUR, though not in others", () -> {
            AskedCocks cocks = Due.told(3, "c0 1 1 0;p5 3;r2 9;");
            cocks.hours(2);
            cocks.builds(2, 0);
            cocks.hours(2);
            cocks.builds(2, 9);
            cocks.hours(2);
            Due.is("saw(0, 0)", cocks.saw(0, 0), Due.bits(2, 3));
        });
    }

    // ---- promise 11

    private static void builds() {
        Edges.of("Promise 11, builds: x", 0, 23, State.HALF, -1, (cocks, x) -> cocks.builds(x, 8));
        Edges.of("Promise 11, builds: height", 0, 9, State.HALF, -1, (cocks, height) -> cocks.builds(5, height));
        Due.holds("Promise 11, builds: both numbers BAD", () -> Unchanged.everywhere(cocks -> cocks.builds(24, 10), -1));
        Due.holds("Promise 11, builds: BAD ahead of STATE: no CELL, 0 as at first",
            () -> Unchanged.everywhere(cocks -> cocks.builds(24, 0), -1));
        Due.holds("Promise 11, builds: BAD ahead of STATE: no CELL below, 0 as at first",
            () -> Unchanged.everywhere(cocks -> cocks.builds(-1, 0), -1));
        Due.holds("Promise 11, builds: STATE: 0 as it is at first, and nothing changes",
            () -> Unchanged.everywhere(cocks -> cocks.builds(22, 0), -2));
        Due.holds("Promise 11, builds: STATE: as told, and nothing changes",
            () -> Unchanged.in(State.HALF, cocks -> cocks.builds(5, 3), -2));
        Due.holds("Promise 11, builds: STATE: 9, the highest, as told, and nothing changes",
            () -> Unchanged.in(State.FULL, cocks -> cocks.builds(23, 9), -2));
        Due.holds("Promise 11, builds: STATE: as built, and nothing changes",
            () -> Unchanged.in(State.HALF, cocks -> cocks.builds(10, 4), -2));
        Due.holds("Promise 11, builds: from 0 to 9 and back, ROOF till then", () -> {
            AskedCocks cocks = new AskedCocks();
            Due.is("builds(0, 9)", cocks.builds(0, 9), 0);
            Due.is("roof(0)", cocks.roof(0), 9);
            Due.is("builds(0, 0)", cocks.builds(0, 0), 9);
            Due.is("roof(0)", cocks.roof(0), 0);
            Due.is("builds(23, 1)", cocks.builds(23, 1), 0);
            Due.is("builds(23, 2)", cocks.builds(23, 2), 1);
            Due.is("roof(22)", cocks.roof(22), 0);
        });
        Due.holds("Promise 11, builds: in HOUR 30, too", () -> {
            AskedCocks cocks = State.FULL.made();
            Due.is("builds(5, 1)", cocks.builds(5, 1), 0);
            Due.is("now(0)", cocks.now(0), 30);
        });
    }

    // ---- promise 12

    private static void asks() {
        Edges.of("Promise 12, asks: c", 0, 4, State.FULL, -1, (cocks, c) -> cocks.asks(c));
        Due.holds("Promise 12, asks: c = 0 where there are no COCKS",
            () -> Unchanged.in(State.NOTHING, cocks -> cocks.asks(0), -1));
        Due.holds("Promise 12, asks: c = 3 where there are 3", () -> Unchanged.in(State.HALF, cocks -> cocks.asks(3), -1));
        Due.holds("Promise 12, asks: c = 2, the last of 3", () -> Due.is("asks(2)", State.HALF.made().asks(2), knownBy2()));
        Due.holds("Promise 12, asks: STATE: it was, and nothing changes",
            () -> Unchanged.in(State.HALF, cocks -> cocks.asks(1), -2));
        for (int c = 0; c < 5; c++) {
            int asked = c;
            Due.holds("Promise 12, asks: STATE where all were, " + c + ", and nothing changes",
                () -> Unchanged.in(State.FULL, cocks -> cocks.asks(asked), -2));
        }
        Due.holds("Promise 12, asks: BAD ahead of STATE: no such COCK where all were ASKED",
            () -> Unchanged.in(State.FULL, cocks -> cocks.asks(5), -1));
        Due.holds("Promise 12, asks: STATE no more, if it is UNDONE", () -> {
            AskedCocks cocks = State.FULL.made();
            cocks.undo();
            Due.isTrue("asks(4) is no refusal", cocks.asks(4) >= 0);
            Due.is("asks(4)", cocks.asks(4), -2);
        });
        Due.holds("Promise 12, asks: 0 more by one that SAW none", () -> {
            AskedCocks cocks = Due.told(2, "c0 1 0 0;p5 3;");
            cocks.hours(9);
            Due.is("asks(0)", cocks.asks(0), 0);
            Due.is("now(1)", cocks.now(1), 1);
            Due.is("count(5)", cocks.count(5), 2);
        });
        Due.holds("Promise 12, asks: 0 more where all that it SAW is KNOWN", () -> {
            AskedCocks cocks = Due.told(3, "c0 1 1 0;c1 1 1 0;p5 3;");
            cocks.hours(9);
            Due.is("asks(1)", cocks.asks(1), 9);
            Due.is("asks(0)", cocks.asks(0), 0);
            Due.is("now(1)", cocks.now(1), 3);
        });
        Due.holds("Promise 12, asks: ahead of all HOURS: 0 more", () -> {
            AskedCocks cocks = Due.told(2, "c0 1 1 0;p5 3;");
            Due.is("asks(0)", cocks.asks(0), 0);
            cocks.hours(1);
            Due.is("saw(0, 0)", cocks.saw(0, 0), 0);
        });
        Due.holds("Promise 12, asks: the HOUR stays, though it takes hours", () -> {
            AskedCocks cocks = inHour(20);
            Due.is("asks(0)", cocks.asks(0), 20);
            Due.is("now(0)", cocks.now(0), 20);
        });
    }

    /** In HALF: how much COCK 2 SAW that COCK 1 did not. */
    private static int knownBy2() {
        AskedCocks cocks = State.HALF.made();
        int more = 0;
        for (int p = 0; p < 2; p++) more += Integer.bitCount(cocks.saw(2, p) & ~cocks.saw(1, p));
        return more;
    }

    // ---- promise 13

    private static void undo() {
        Due.holds("Promise 13, undo: STATE: none, of a new object, and nothing changes",
            () -> Unchanged.in(State.NOTHING, AskedCocks::undo, -2));
        Due.holds("Promise 13, undo: STATE: none left, and nothing changes", () -> Unchanged.of(() -> {
            AskedCocks cocks = State.HALF.made();
            for (int i = 0; i < 4; i++) cocks.undo();
            return cocks;
        }, AskedCocks::undo, -2));
        Due.holds("Promise 13, undo: STATE: none, behind an IMAGE that keeps none", () -> {
            AskedCocks cocks = new AskedCocks();
            cocks.keep(0);
            cocks.hours(1);
            cocks.back(0);
            Due.is("undo()", cocks.undo(), -2);
        });
        Due.holds("Promise 13, undo: the only one: 0 more", () -> {
            AskedCocks cocks = new AskedCocks();
            cocks.builds(0, 9);
            Due.is("undo()", cocks.undo(), 0);
            Due.is("roof(0)", cocks.roof(0), 0);
        });
        Due.holds("Promise 13, undo: what was refused is none of it", () -> {
            AskedCocks cocks = State.FULL.made();
            cocks.hours(1);
            cocks.builds(23, 9);
            cocks.asks(0);
            Due.is("count(5)", cocks.count(5), 10);
            Due.is("undo()", cocks.undo(), 9);
            Due.is("now(1)", cocks.now(1), 15);
        });
        Due.holds("Promise 13, undo: what is asked, FACED, MET, kept is none of it", () -> {
            AskedCocks cocks = Due.told(2, "c0 1 1 0;p5 3;");
            cocks.hours(2);
            cocks.view(0, 0);
            cocks.most(9, 0);
            cocks.faced(0, 0);
            cocks.met(0, 0);
            cocks.keep(0);
            cocks.mark(0, 0);
            cocks.forget();
            Due.is("count(5)", cocks.count(5), 1);
        });
        Due.holds("Promise 13, undo: FACED, MET, IMAGES, THE TEXT, THE TRACE stay", () -> {
            AskedCocks cocks = State.FULL.made();
            for (int left = 9; left >= 0; left--) Due.is("undo()", cocks.undo(), left);
            int[] due = {5, 4, 4, 6, 6, 0, 150};
            for (int what = 0; what < due.length; what++) Due.is("count(" + what + ")", cocks.count(what), due[what]);
            Due.is("trace()", cocks.trace(), State.FULL.made().trace());
            Due.is("back(0)", cocks.back(0), 11);
            Due.is("back(1)", cocks.back(1), 30);
        });
    }

    private static void undoTen() {
        for (int n = 8; n <= 12; n++) {
            int done = n;
            Due.holds("Promise 13, undo: 10 are known, older ones are lost: of " + n + " BUILT", () -> {
                AskedCocks cocks = new AskedCocks();
                for (int x = 0; x < done; x++) cocks.builds(x, 5);
                int known = Math.min(done, 10);
                Due.is("count(5)", cocks.count(5), known);
                for (int left = known - 1; left >= 0; left--) Due.is("undo()", cocks.undo(), left);
                Due.is("undo()", cocks.undo(), -2);
                for (int x = 0; x < done; x++) Due.is("roof(" + x + ")", cocks.roof(x), x < done - 10 ? 5 : 0);
            });
            Due.holds("Promise 13, undo: 10 are known, older ones are lost: of " + n + " GONE by", () -> {
                AskedCocks cocks = Due.told(2, "c0 1 1 0;p5 3;");
                for (int i = 0; i < done; i++) cocks.hours(2);
                for (int i = 0; i < 10; i++) cocks.undo();
                int lost = Math.max(done - 10, 0);
                Due.is("undo()", cocks.undo(), -2);
                Due.is("now(0)", cocks.now(0), 2 * lost);
                Due.is("saw(0, 0)", cocks.saw(0, 0), (1 << 2 * lost) - 1);
            });
        }
        Due.holds("Promise 13, undo: an ASKED that is lost can't be UNDONE, an ASKED that is the tenth can", () -> {
            AskedCocks cocks = Due.told(3, "c0 1 1 0;c1 1 1 0;p5 3;");
            cocks.asks(0);
            cocks.asks(1);
            for (int x = 10; x < 19; x++) cocks.builds(x, 1);
            for (int left = 9; left >= 0; left--) Due.is("undo()", cocks.undo(), left);
            Due.is("now(1)", cocks.now(1), 1);
            Due.is("undo()", cocks.undo(), -2);
        });
        Due.holds("Promise 13, undo: what is done behind it is known anew, up to 10", () -> {
            AskedCocks cocks = State.FULL.made();
            for (int i = 0; i < 5; i++) cocks.undo();
            for (int height = 1; height <= 5; height++) cocks.builds(20, height);
            Due.is("count(5)", cocks.count(5), 10);
            cocks.builds(20, 6);
            Due.is("count(5)", cocks.count(5), 10);
            for (int height = 5; height >= 0; height--) {
                cocks.undo();
                Due.is("roof(20)", cocks.roof(20), height);
            }
            Due.is("count(5)", cocks.count(5), 4);
        });
    }

    private static void undoHours() {
        Due.holds("Promise 13, undo: HOURS of one call together, 9 of them", () -> {
            AskedCocks cocks = inHour(9);
            Due.is("undo()", cocks.undo(), 0);
            Due.is("now(0)", cocks.now(0), 0);
            Due.is("saw(0, 0)", cocks.saw(0, 0), 0);
        });
        Due.holds("Promise 13, undo: HOURS of one call together, fewer than told, to HOUR 30", () -> {
            AskedCocks cocks = inHour(28);
            cocks.hours(9);
            Due.is("undo()", cocks.undo(), 4);
            Due.is("now(0)", cocks.now(0), 28);
            Due.is("saw(0, 0)", cocks.saw(0, 0), (1 << 28) - 1);
        });
        Due.holds("Promise 13, undo: HOURS of two calls, one by one", () -> {
            AskedCocks cocks = inHour(0);
            cocks.hours(1);
            cocks.hours(1);
            Due.is("undo()", cocks.undo(), 1);
            Due.is("now(0)", cocks.now(0), 1);
            Due.is("saw(0, 0)", cocks.saw(0, 0), 1);
        });
        Due.holds("Promise 13, undo: of HOURS gone by before neither more nor less was SEEN", () -> {
            AskedCocks cocks = Due.told(4, "c0 1 1 2;c9 1 1 0;p5 3;s5 1 1;");
            cocks.hours(9);
            Due.is("saw(0, 0)", cocks.saw(0, 0), Due.bits(0, 4, 5, 8));
            cocks.hours(4);
            Due.is("saw(0, 0)", cocks.saw(0, 0), Due.bits(0, 4, 5, 8, 9, 12));
            cocks.undo();
            Due.is("saw(0, 0)", cocks.saw(0, 0), Due.bits(0, 4, 5, 8));
            Due.is("saw(1, 0)", cocks.saw(1, 0), 0);
        });
        Due.holds("Promise 13, undo: in HOURS that go by again all is SEEN as it is then", () -> {
            AskedCocks cocks = inHour(4);
            cocks.undo();
            cocks.builds(2, 9);
            cocks.hours(2);
            Due.is("saw(0, 0)", cocks.saw(0, 0), 0);
            cocks.undo();
            cocks.undo();
            cocks.hours(3);
            Due.is("saw(0, 0)", cocks.saw(0, 0), 7);
        });
    }

    // ---- promise 14

    private static void now() {
        Edges.of("Promise 14, now: what", 0, 4, State.FULL, -1, (cocks, what) -> cocks.now(what));
        for (int what = 0; what <= 4; what++) {
            int asked = what;
            Due.holds("Promise 14, now: what = " + what + ": nothing is changed",
                () -> Unchanged.byAsking(cocks -> cocks.now(asked)));
        }
        Due.holds("Promise 14, now: 0, the HOUR, 30", () -> Due.is("now(0)", State.FULL.made().now(0), 30));
        Due.holds("Promise 14, now: 1, which were ASKED, all five", () -> Due.is("now(1)", State.FULL.made().now(1), 31));
        Due.holds("Promise 14, now: 1, which were ASKED, the fifth alone", () -> {
            AskedCocks cocks = Due.told(11, PARTS);
            cocks.asks(4);
            Due.is("now(1)", cocks.now(1), 16);
        });
        Due.holds("Promise 14, now: 2 and 3, the most: four in 30 HOURS, SEEN by five, KNOWN once", () -> {
            AskedCocks cocks = Due.told(9, "c0 1 1 0;c1 1 1 0;c2 1 1 0;c3 1 1 0;c4 1 1 0;p5 3;p6 3;p7 3;p8 3;");
            for (int n = 0; n < 4; n++) cocks.hours(9);
            Due.is("now(3)", cocks.now(3), 120);
            Due.is("now(2)", cocks.now(2), 0);
            cocks.asks(3);
            cocks.asks(4);
            Due.is("now(2)", cocks.now(2), 120);
            Due.is("now(3)", cocks.now(3), 120);
        });
        Due.holds("Promise 14, now: 2 and 3, nothing: COCKS, but nobody", () -> {
            AskedCocks cocks = Due.told(1, "c0 1 1 0;");
            cocks.hours(9);
            cocks.asks(0);
            Due.is("now(2)", cocks.now(2), 0);
            Due.is("now(3)", cocks.now(3), 0);
        });
        Due.holds("Promise 14, now: 3, what those SAW that were ASKED, too", () -> {
            AskedCocks cocks = Due.told(3, "c0 1 1 0;c9 1 0 0;p5 3;");
            cocks.hours(3);
            cocks.asks(0);
            cocks.asks(1);
            Due.is("now(3)", cocks.now(3), 3);
        });
    }

    private static AskedCocks parted() {
        AskedCocks cocks = Due.told(11, PARTS);
        for (int n = 0; n < 4; n++) cocks.hours(9);
        for (int c = 0; c < 5; c++) Due.is("saw(" + c + ", 0)", cocks.saw(c, 0), 3 << 4 * c);
        return cocks;
    }

    private static void cover() {
        Due.holds("Promise 14, now: COVER: none, where nothing was SEEN",
            () -> Due.is("now(4)", Due.told(11, PARTS).now(4), 0));
        Due.holds("Promise 14, now: COVER: all five, where each alone SAW some", () -> Due.is("now(4)", parted().now(4), 31));
        Due.holds("Promise 14, now: COVER: those not ASKED alone", () -> {
            AskedCocks cocks = parted();
            cocks.asks(2);
            Due.is("now(4)", cocks.now(4), 27);
            cocks.asks(0);
            Due.is("now(4)", cocks.now(4), 26);
        });
        Due.holds("Promise 14, now: COVER: the last one, then none, as all is KNOWN", () -> {
            AskedCocks cocks = parted();
            for (int c = 0; c < 4; c++) cocks.asks(c);
            Due.is("now(4)", cocks.now(4), 16);
            cocks.asks(4);
            Due.is("now(4)", cocks.now(4), 0);
        });
        Due.holds("Promise 14, now: COVER: none, where the rest SAW what is KNOWN", () -> {
            AskedCocks cocks = Due.told(3, "c0 1 1 0;c1 1 1 0;p5 3;");
            cocks.hours(9);
            cocks.asks(1);
            Due.is("now(4)", cocks.now(4), 0);
        });
        Due.holds("Promise 14, now: COVER: though to ask them takes 87 hours, more than MOST is asked by",
            () -> Due.is("now(4)", threeDearOnes().now(4), 7));
    }

    /**
     * Three, each with 112 TELLINGS, for 29 hours: in an HOUR each it alone SAW all four, 0, then 1,
     * then 2; in 27 HOURS all of them did.
     */
    static AskedCocks threeDearOnes() {
        AskedCocks cocks = Due.told(10, "c0 5 1 0;c1 1 1 0;c23 1 0 0;r0 9;r2 9;r22 9;p10 3;p11 3;p12 3;p13 3;");
        cocks.hours(1);
        cocks.builds(0, 0);
        cocks.builds(1, 9);
        cocks.builds(2, 0);
        cocks.hours(1);
        cocks.builds(1, 0);
        cocks.builds(2, 9);
        cocks.builds(22, 0);
        cocks.hours(1);
        cocks.builds(2, 0);
        for (int n = 0; n < 3; n++) cocks.hours(9);
        for (int c = 0; c < 3; c++) Due.is("saw(" + c + ", 3)", cocks.saw(c, 3), ALL_HOURS & ~7 | 1 << c);
        for (int c = 0; c < 3; c++) Due.is("cock(" + c + ", 7)", cocks.cock(c, 7), 112);
        return cocks;
    }

    private static void coverOfLikeOnes() {
        Due.holds("Promise 14, now: COVER: of several sets the least: the first of like ones", () -> {
            AskedCocks cocks = Due.told(4, "c1 1 1 0;c0 1 1 0;c2 1 1 0;p5 3;");
            cocks.hours(2);
            Due.is("now(4)", cocks.now(4), 1);
        });
        Due.holds("Promise 14, now: COVER: of several sets the least: not one ASKED, but the next", () -> {
            AskedCocks cocks = Due.told(4, "c1 1 1 0;c0 1 1 0;c2 1 1 0;p5 3;");
            cocks.asks(0);
            cocks.hours(2);
            Due.is("now(4)", cocks.now(4), 2);
        });
        Due.holds("Promise 14, now: COVER: the fewest, though of more bits: 4 alone ahead of 0 and 1", () -> {
            AskedCocks cocks = Due.told(7, "c12 1 0 0;c12 1 1 0;c11 1 0 0;c11 1 1 0;c0 1 1 0;p4 3;p20 3;");
            cocks.hours(2);
            Due.is("now(4)", cocks.now(4), 16);
        });
        Due.holds("Promise 14, now: COVER: of several sets of two the least: 0 and 1 ahead of 2 and 3", () -> {
            AskedCocks cocks = Due.told(6, "c12 1 0 0;c12 1 1 0;c11 1 0 0;c11 1 1 0;p4 3;p20 3;");
            cocks.hours(2);
            Due.is("now(4)", cocks.now(4), 3);
        });
    }
}

import java.util.function.Consumer;

/** Promises 1 to 4 and the constants at their edges: a test for each sentence that names one. */
final class TextEdgesTest {
    private static final String FIVE_COCKS = "c0 1 0 0;c23 5 1 9;c4 1 0 0;c5 1 0 0;c6 2 1 3;";
    private static final String FOUR_PEOPLE = "p0 0;p23 6;p4 3;p5 2;";
    private static final String FOUR_SMOKES = "s0 0 0;s23 29 29;s4 0 29;s5 3 4;";

    public static void main(String[] args) {
        constants();
        newObject();
        type();
        clear();
        dioceseWhole();
        dioceseRoofs();
        dioceseCocks();
        diocesePeople();
        dioceseSmoke();
        dioceseBlanks();
        faultsOfItems();
        faultsOfNumbers();
        faultsOfBytes();
        faultsOfEarlyEnds();
        faultsThatMeet();
        faultsStay();
        readAnew();
        Due.end("TextEdgesTest");
    }

    private static void constants() {
        Due.holds("The constants: BAD", () -> Due.is("BAD", AskedCocks.BAD, -1));
        Due.holds("The constants: STATE", () -> Due.is("STATE", AskedCocks.STATE, -2));
        Due.holds("The constants: FULL", () -> Due.is("FULL", AskedCocks.FULL, -3));
        Due.holds("The constants: NONE", () -> Due.is("NONE", AskedCocks.NONE, -9));
        Due.holds("The constants: NO", () -> Due.is("NO", AskedCocks.NO, -1000000));
    }

    // ---- promise 1

    private static void isNew(String sentence, Consumer<AskedCocks> test) {
        Due.holds("Promise 1, a new object: " + sentence, () -> test.accept(new AskedCocks()));
    }

    private static void newObject() {
        isNew("the HOUR is 0", x -> Due.is("now(0)", x.now(0), 0));
        isNew("no COCK was ASKED", x -> Due.is("now(1)", x.now(1), 0));
        isNew("nothing is KNOWN", x -> Due.is("now(2)", x.now(2), 0));
        isNew("nobody was SEEN", x -> Due.is("now(3)", x.now(3), 0));
        isNew("COVER is of none", x -> Due.is("now(4)", x.now(4), 0));
        isNew("ROOFS are 0", x -> {
            for (int cell = 0; cell < 24; cell++) Due.is("roof(" + cell + ")", x.roof(cell), 0);
        });
        isNew("no COCKS", TextEdgesTest::hasNoCocks);
        isNew("nobody", x -> {
            Due.is("count(1)", x.count(1), 0);
            for (int what = 0; what < 3; what++) Due.is("one(0, " + what + ")", x.one(0, what), -1000000);
            Due.is("known(0)", x.known(0), -1);
            Due.is("saw(0, 0)", x.saw(0, 0), -1);
        });
        isNew("no SMOKE", x -> Due.is("count(2)", x.count(2), 0));
        isNew("all CELLS are BLIND", x -> {
            for (int hour = 0; hour < 30; hour++) Due.is("blind(" + hour + ")", x.blind(hour), 0xFFFFFF);
        });
        isNew("MOST is of none", x -> {
            for (int n = 0; n <= 60; n++) Due.is("most(" + n + ", 0)", x.most(n, 0), 0);
            for (int n = 0; n <= 60; n++) Due.is("most(" + n + ", 1)", x.most(n, 1), 0);
        });
        isNew("nothing was FACED", x -> {
            Due.is("count(3)", x.count(3), 0);
            Due.is("laws(0)", x.laws(0), 20);
            Due.is("laws(1)", x.laws(1), 0);
            Due.is("tryNext()", x.tryNext(), 0);
        });
        isNew("nothing was MET", x -> {
            Due.is("count(4)", x.count(4), 0);
            Due.is("ways(0)", x.ways(0), 168);
            Due.is("ways(1)", x.ways(1), 0);
            Due.is("falses(0)", x.falses(0), 0);
            Due.is("falses(1)", x.falses(1), 0);
        });
        isNew("nothing may be UNDONE", x -> {
            Due.is("count(5)", x.count(5), 0);
            Due.is("undo()", x.undo(), -2);
        });
        isNew("THE TEXT is empty", x -> Due.is("count(6)", x.count(6), 0));
        isNew("no IMAGE was kept", x -> {
            Due.is("back(0)", x.back(0), -2);
            Due.is("back(1)", x.back(1), -2);
        });
        isNew("THE TRACE is 0", x -> Due.is("trace()", x.trace(), 0));
        isNew("the HOURS go by without anybody", x -> {
            Due.is("hours(9)", x.hours(9), 9);
            Due.is("undo()", x.undo(), 0);
        });
        Due.holds("Promise 1, a new object: as told, whatever befell another one", () -> {
            State.FULL.made();
            Unchanged.like(AskedCocks::new, () -> {
                State.FULL.made();
                AskedCocks cocks = new AskedCocks();
                State.FULL.made();
                return cocks;
            });
        });
        Due.holds("What it is: the 512th call is answered as told", TextEdgesTest::lastCall);
    }

    private static void hasNoCocks(AskedCocks x) {
        Due.is("count(0)", x.count(0), 0);
        for (int what = 0; what < 8; what++) Due.is("cock(0, " + what + ")", x.cock(0, what), -1);
        for (int kind = 0; kind < 6; kind++) Due.is("mark(" + kind + ", 0)", x.mark(kind, 0), -1000000);
        Due.is("view(0, 0)", x.view(0, 0), -1);
        Due.is("asks(0)", x.asks(0), -1);
        Due.is("odds(0, 1, 0, 0, 0, 0)", x.odds(0, 1, 0, 0, 0, 0), -1);
    }

    private static void lastCall() {
        AskedCocks cocks = Due.told(1, "c3 2 1 0;");
        // 10 calls are made
        for (int call = 11; call < 512; call++) Due.is("mark(5, 0), call " + call, cocks.mark(5, 0), 2);
        Due.is("trace(), call 512", cocks.trace(), 501L * 100001);
    }

    // ---- promise 2

    private static void type() {
        Edges.of("Promise 2, type: c", 0, 255, State.HALF, -1, (x, c) -> x.type(c));
        Due.holds("Promise 2, type: into an empty TEXT: it has 1", () -> Due.is("type(0)", new AskedCocks().type(0), 1));
        Due.holds("Promise 2, type: how many it has, up to the 150th byte, which is taken", () -> {
            AskedCocks cocks = new AskedCocks();
            for (int n = 1; n <= 150; n++) Due.is("type " + n, cocks.type(255), n);
            Due.is("count(6)", cocks.count(6), 150);
        });
        Due.holds("Promise 2, type: the 151st byte is FULL, and changes nothing",
            () -> Unchanged.in(State.FULL, x -> x.type(' '), -3));
        Due.holds("Promise 2, type: the 151st byte is FULL again", () -> {
            AskedCocks cocks = State.FULL.made();
            for (int n = 0; n < 9; n++) Due.is("type(59)", cocks.type(';'), -3);
        });
        Due.holds("Promise 2, type: BAD ahead of FULL: 256 where THE TEXT is full",
            () -> Unchanged.in(State.FULL, x -> x.type(256), -1));
        Due.holds("Promise 2, type: BAD ahead of FULL: -1 where THE TEXT is full",
            () -> Unchanged.in(State.FULL, x -> x.type(-1), -1));
        Due.holds("Promise 2, type: FULL no more behind clear: 150 are taken again", () -> {
            AskedCocks cocks = State.FULL.made();
            cocks.clear();
            for (int n = 1; n <= 150; n++) Due.is("type " + n, cocks.type('1'), n);
            Due.is("type 151", cocks.type('1'), -3);
        });
        Due.holds("Promise 2, type: FULL no more behind diocese: the first is taken", () -> {
            AskedCocks cocks = State.FULL.made();
            Due.is("diocese()", cocks.diocese(), 30);
            Due.is("type(0)", cocks.type(0), 1);
        });
        Due.holds("Promise 2, type: FULL still behind a FAULT", () -> {
            AskedCocks cocks = with(State.NOTHING, "x".repeat(150));
            Due.is("diocese()", cocks.diocese(), -10);
            Due.is("type(0)", cocks.type(0), -3);
        });
        // no byte counts as another one of like low bits: 160 is 32 and 128, 178 is '2' and 128
        Due.holds("Promise 2, type: bytes above 127 are what they are", () -> {
            for (int c = 128; c < 256; c++) {
                Due.is("diocese() of byte " + c, with(State.NOTHING, "r1 2;" + (char) c).diocese(), -15);
            }
        });
    }

    // ---- promise 3

    private static void clear() {
        Due.holds("Promise 3, clear: an empty TEXT had 0 bytes", () -> Unchanged.in(State.NOTHING, x -> x.clear(), 0));
        Due.holds("Promise 3, clear: some bytes", () -> Due.is("clear()", State.HALF.made().clear(), 9));
        Due.holds("Promise 3, clear: a full TEXT had 150 bytes", () -> Due.is("clear()", State.FULL.made().clear(), 150));
        Due.holds("Promise 3, clear: THE TEXT is empty", () -> {
            AskedCocks cocks = State.FULL.made();
            cocks.clear();
            Due.is("count(6)", cocks.count(6), 0);
            Due.is("clear()", cocks.clear(), 0);
            Due.is("diocese()", cocks.diocese(), 0);
        });
        Due.holds("Promise 3, clear: nothing of it is read later", () -> {
            AskedCocks cocks = with(State.NOTHING, "r1 22;");
            cocks.clear();
            State.type(cocks, "r1 2");
            Due.is("diocese()", cocks.diocese(), -14);
            cocks.type(';');
            Due.is("diocese()", cocks.diocese(), 1);
        });
        Due.holds("Promise 3, clear: nothing else is changed", () -> {
            for (State state : State.values()) {
                Unchanged.like(() -> with(state, ""), () -> {
                    AskedCocks cocks = with(state, "r1 2;c");
                    Due.is("clear()", cocks.clear(), 6);
                    return cocks;
                });
            }
        });
    }

    // ---- promise 4

    /** An object in that state, but for THE TEXT, which is this one. */
    private static AskedCocks with(State state, String text) {
        AskedCocks cocks = state.made();
        cocks.clear();
        State.type(cocks, text);
        return cocks;
    }

    /** In each state this text tells so many ITEMS, and what the test asks. */
    private static void reads(String sentence, String text, int items, Consumer<AskedCocks> test) {
        Due.holds("Promise 4, diocese: " + sentence, () -> {
            for (State state : State.values()) {
                AskedCocks cocks = with(state, text);
                Due.is("diocese() of \"" + text + "\" in " + state, cocks.diocese(), items);
                Due.is("count(6)", cocks.count(6), 0);
                test.accept(cocks);
            }
        });
    }

    /** The FAULT's place, and nothing changes, be there something or nothing yet. */
    private static void fault(String sentence, String text, int place) {
        Due.holds("Promise 4, diocese: FAULT, and nothing changes: " + sentence, () -> {
            Unchanged.of(() -> with(State.NOTHING, text), AskedCocks::diocese, -10 - place);
            Unchanged.of(() -> with(State.HALF, text), AskedCocks::diocese, -10 - place);
        });
    }

    private static void dioceseWhole() {
        reads("ITEMS, none too: an empty TEXT", "", 0, TextEdgesTest::toldNothing);
        reads("ITEMS, none too: a blank", " ", 0, TextEdgesTest::toldNothing);
        reads("ITEMS, none too: 150 blanks", " ".repeat(150), 0, TextEdgesTest::toldNothing);
        reads("one ITEM", "r0 1;", 1, x -> Due.is("roof(0)", x.roof(0), 1));
        reads("30 ITEMS in 150 bytes, the last one, too", "r0 1;".repeat(29) + "r9 9;", 30, x -> {
            Due.is("roof(0)", x.roof(0), 1);
            Due.is("roof(9)", x.roof(9), 9);
        });
        reads("as many of each as there may be", FIVE_COCKS + FOUR_PEOPLE + FOUR_SMOKES, 13, x -> {
            int[] due = {5, 4, 4, 0, 0, 0, 0};
            for (int what = 0; what < due.length; what++) Due.is("count(" + what + ")", x.count(what), due[what]);
        });
    }

    private static void toldNothing(AskedCocks cocks) {
        for (int what = 0; what < 7; what++) Due.is("count(" + what + ")", cocks.count(what), 0);
        for (int cell = 0; cell < 24; cell++) Due.is("roof(" + cell + ")", cocks.roof(cell), 0);
    }

    private static void dioceseRoofs() {
        reads("r: the lowest X and H", "r0 0;", 1, x -> Due.is("roof(0)", x.roof(0), 0));
        reads("r: the highest X and H", "r23 9;", 1, x -> Due.is("roof(23)", x.roof(23), 9));
        reads("r: told again, the later, a lower one", "r7 9;r7 3;", 2, x -> Due.is("roof(7)", x.roof(7), 3));
        reads("r: told again, the later, 0", "r7 9;r8 1;r7 0;", 3, x -> Due.is("roof(7)", x.roof(7), 0));
        reads("r: told again, the later, a higher one", "r7 3;r7 9;", 2, x -> Due.is("roof(7)", x.roof(7), 9));
        reads("r: told behind a COCK, it is under its EYE", "c7 1 0 0;r7 9;", 2,
            x -> Due.is("cock(0, 4)", x.cock(0, 4), 10));
        fault("r: X 24", "r24 0;", 1);
        fault("r: X 99", "r99 0;", 1);
        fault("r: H 10", "r23 10;", 4);
        fault("r: H 99", "r0 99;", 3);
    }

    private static void cockIs(AskedCocks cocks, int c, int... due) {
        for (int what = 0; what < due.length; what++) {
            Due.is("cock(" + c + ", " + what + ")", cocks.cock(c, what), due[what]);
        }
    }

    private static void dioceseCocks() {
        reads("c: the lowest X, R, S and T", "c0 1 0 0;", 1, x -> cockIs(x, 0, 0, 1, 0, 0, 1, 0, 0, 0));
        reads("c: the highest X, R, S and T", "c23 5 1 9;", 1, x -> cockIs(x, 0, 23, 5, 1, 9, 5, 1, 0, 0));
        reads("c: the fifth COCK", FIVE_COCKS, 5, x -> {
            cockIs(x, 0, 0, 1, 0, 0);
            cockIs(x, 4, 6, 2, 1, 3);
            Due.is("count(0)", x.count(0), 5);
        });
        reads("c: two in one CELL", "c4 1 0 0;c4 1 0 0;", 2, x -> Due.is("count(0)", x.count(0), 2));
        fault("c: X 24", "c24 1 0 0;", 1);
        fault("c: R 0", "c0 0 0 0;", 3);
        fault("c: R 6", "c0 6 0 0;", 3);
        fault("c: S 2", "c0 1 2 0;", 5);
        fault("c: T 10", "c0 1 0 10;", 7);
        fault("c: a sixth COCK, at its letter", FIVE_COCKS + "c0 1 0 0;", 46);
        fault("c: a sixth COCK behind blanks, at its letter", FIVE_COCKS + "  c0 1 0 0;", 48);
        fault("c: a sixth COCK, told no further", FIVE_COCKS + "c", 46);
    }

    private static void oneIs(AskedCocks cocks, int p, int start, int speed) {
        Due.is("one(" + p + ", 0)", cocks.one(p, 0), start);
        Due.is("one(" + p + ", 1)", cocks.one(p, 1), speed);
        Due.is("one(" + p + ", 2)", cocks.one(p, 2), start);
    }

    private static void diocesePeople() {
        reads("p: the lowest X and V, SPEED -3", "p0 0;", 1, x -> oneIs(x, 0, 0, -3));
        reads("p: the highest X and V, SPEED 3", "p23 6;", 1, x -> oneIs(x, 0, 23, 3));
        reads("p: V 3, SPEED 0", "p5 3;", 1, x -> oneIs(x, 0, 5, 0));
        reads("p: the fourth of PEOPLE", FOUR_PEOPLE, 4, x -> {
            oneIs(x, 0, 0, -3);
            oneIs(x, 3, 5, -1);
            Due.is("count(1)", x.count(1), 4);
        });
        fault("p: X 24", "p24 0;", 1);
        fault("p: V 7", "p0 7;", 3);
        fault("p: a fifth of PEOPLE, at its letter", FOUR_PEOPLE + "p0 0;", 21);
        fault("p: a fifth of PEOPLE, told no further", FOUR_PEOPLE + " p", 22);
    }

    /** HOURS in which a COCK far off SAW one who stays in a CELL with this SMOKE told. */
    private static void seenBeside(String smoke, int cell, int due) {
        AskedCocks cocks = Due.told(3, "c" + (cell < 12 ? "23 1 0 0;" : "0 1 1 0;") + "p" + cell + " 3;" + smoke);
        for (int n = 0; n < 4; n++) cocks.hours(9);
        Due.is("saw(0, 0) with " + smoke, cocks.saw(0, 0), due);
    }

    private static void dioceseSmoke() {
        final int all = (1 << 30) - 1;
        reads("s: the lowest X, A and B", "s0 0 0;", 1, x -> Due.is("count(2)", x.count(2), 1));
        reads("s: the highest X, A and B", "s23 29 29;", 1, x -> Due.is("count(2)", x.count(2), 1));
        reads("s: B no earlier than A: as early", "s5 7 7;", 1, x -> Due.is("count(2)", x.count(2), 1));
        reads("s: the fourth SMOKE", FOUR_SMOKES, 4, x -> Due.is("count(2)", x.count(2), 4));
        Due.holds("Promise 4, diocese: s: in CELL 0, in HOUR 0 alone", () -> seenBeside("s0 0 0;", 0, all & ~1));
        Due.holds("Promise 4, diocese: s: in CELL 23, in HOUR 29 alone",
            () -> seenBeside("s23 29 29;", 23, all & ~(1 << 29)));
        Due.holds("Promise 4, diocese: s: from A to B, in both, too",
            () -> seenBeside("s9 3 6;", 9, all & ~Due.bits(3, 4, 5, 6)));
        Due.holds("Promise 4, diocese: s: in all HOURS", () -> seenBeside("s9 0 29;", 9, 0));
        Due.holds("Promise 4, diocese: s: not in the next CELL below", () -> seenBeside("s8 0 29;", 9, all));
        Due.holds("Promise 4, diocese: s: not in the next CELL above", () -> seenBeside("s10 0 29;", 9, all));
        fault("s: X 24", "s24 0 0;", 1);
        fault("s: A 30", "s0 30 30;", 3);
        fault("s: B 30", "s0 29 30;", 6);
        fault("s: B less than A by 1", "s0 5 4;", 5);
        fault("s: B less than A, 0 and 29", "s0 29 0;", 6);
        fault("s: a fifth SMOKE, at its letter", FOUR_SMOKES + "s0 0 0;", 32);
        fault("s: a fifth SMOKE, told no further", FOUR_SMOKES + "s", 32);
    }

    private static void dioceseBlanks() {
        reads("no blanks where TOKENS end without", "r12 3;c4 5 1 6;", 2, x -> {
            Due.is("roof(12)", x.roof(12), 3);
            cockIs(x, 0, 4, 5, 1, 6);
        });
        reads("blanks ahead of TOKENS", "   r12 3;", 1, x -> Due.is("roof(12)", x.roof(12), 3));
        reads("blanks between TOKENS, one", "r 12 3 ; r 13 4 ;", 2, x -> Due.is("roof(13)", x.roof(13), 4));
        reads("blanks between TOKENS, many", "r   12     3   ;  r13 4;", 2, x -> Due.is("roof(12)", x.roof(12), 3));
        reads("blanks behind TOKENS", "r12 3;   ", 1, x -> Due.is("roof(12)", x.roof(12), 3));
        reads("blanks up to the 150th byte", "r12 3;" + " ".repeat(144), 1, x -> Due.is("roof(12)", x.roof(12), 3));
        reads("blanks ahead of what ends with the 150th byte", " ".repeat(144) + "r12 3;", 1,
            x -> Due.is("roof(12)", x.roof(12), 3));
        fault("a blank parts letters", "r r1 2;", 2);
        fault("a blank parts a NUMBER", "r1 2 3;", 5);
        fault("byte 31 is no blank", "r1" + (char) 31 + "2;", 2);
        fault("byte 33 is no blank", "r1!2;", 2);
        fault("byte 9 is no blank", "\tr1 2;", 0);
        fault("byte 10 is no blank", "r1 2;\n", 5);
        fault("byte 0 is no blank", "r1 2;" + (char) 0, 5);
    }

    private static void faultsOfItems() {
        fault("letters that begin no ITEM: one", "q1 2;", 0);
        fault("letters that begin no ITEM: an ITEM's twice", "rr1 2;", 0);
        fault("letters that begin no ITEM: two ITEMS'", "cp1 2;", 0);
        fault("letters that begin no ITEM: more behind an ITEM's", "roof1 2;", 0);
        fault("letters that begin no ITEM: the lowest, a", "a1 2;", 0);
        fault("letters that begin no ITEM: the highest, z", "z1 2;", 0);
        fault("letters that begin no ITEM: the lowest beside an ITEM's", "ra1 2;", 0);
        fault("letters that begin no ITEM: the highest beside an ITEM's", "rz1 2;", 0);
        fault("letters that begin no ITEM: behind an ITEM", "r1 2;x", 5);
        fault("letters that begin no ITEM: 150 of them", "r".repeat(150), 0);
        fault("a NUMBER where an ITEM would begin", "1 2;", 0);
        // 114 would be an r as a byte
        fault("a NUMBER where an ITEM would begin, of a letter's byte", "99 1 1 0 0;", 0);
        fault("a ; where an ITEM would begin", ";", 0);
        fault("a ; where an ITEM would begin, behind one", "r1 2;;", 5);
        fault("a ; where a NUMBER is due", "r;", 1);
        fault("a ; where the last NUMBER is due", "c1 1 1;", 6);
        fault("a ; where the last NUMBER of p is due", "p1;", 2);
        fault("a ; where the last NUMBER of s is due", "s1 1;", 4);
        fault("letters where a NUMBER is due", "r1c;", 2);
        fault("letters where a ; is due", "r1 2r3 4;", 4);
        fault("a NUMBER where a ; is due, of r", "r1 2 3;", 5);
        fault("a NUMBER where a ; is due, of c", "c1 1 1 1 1;", 9);
        fault("a NUMBER where a ; is due, of p", "p1 1 1;", 5);
        fault("a NUMBER where a ; is due, of s", "s1 1 1 1;", 7);
    }

    private static void faultsOfNumbers() {
        reads("a NUMBER that is 0", "r0 0;", 1, x -> Due.is("roof(0)", x.roof(0), 0));
        reads("a NUMBER with a 0 behind", "r10 3;c20 1 0 0;", 2, x -> Due.is("roof(10)", x.roof(10), 3));
        fault("a NUMBER with a 0 ahead: 00", "r00 2;", 1);
        fault("a NUMBER with a 0 ahead: 01", "r01 2;", 1);
        fault("a NUMBER with a 0 ahead: 09, the last one", "r1 09;", 3);
        fault("a NUMBER with 0s ahead: 000001", "r000001 2;", 1);
        fault("a NUMBER of 149 times 0", "r" + "0".repeat(149), 1);
        fault("a NUMBER of 99, beyond what it may be", "r99 2;", 1);
        fault("a NUMBER above 99: 100", "r100 2;", 1);
        fault("a NUMBER above 99 where none can stand", "r1 2;100", 5);
        fault("a NUMBER above 99: 2 and 2 to the 8th", "r1 258;", 3);
        fault("a NUMBER above 99: 2 and 2 to the 16th", "r1 65538;", 3);
        fault("a NUMBER above 99: 2 to the 31st", "r1 2147483648;", 3);
        fault("a NUMBER above 99: 2 and 2 to the 32nd", "r1 4294967298;", 3);
        fault("a NUMBER above 99: 2 and 2 to the 64th", "r1 18446744073709551618;", 3);
        fault("a NUMBER above 99: 149 times 1", "r" + "1".repeat(149), 1);
        fault("a NUMBER beyond what it may be, and told no further", "r24", 1);
    }

    private static void faultsOfBytes() {
        fault("a byte that begins none: ahead of 0", "r1/2;", 2);
        fault("a byte that begins none: behind 9", "r1:2;", 2);
        fault("a byte that begins none: ahead of a", "`1 2;", 0);
        fault("a byte that begins none: behind z", "{1 2;", 0);
        fault("a byte that begins none: behind ;", "r1 2<", 4);
        fault("a byte that begins none: a capital", "R1 2;", 0);
        fault("a byte that begins none: a sign", "r-1 2;", 1);
        fault("a byte that begins none: 0", (char) 0 + "r1 2;", 0);
        fault("a byte that begins none: 255", "r1 2" + (char) 255, 4);
        fault("a byte that begins none: right behind letters", "r!1 2;", 1);
        fault("a byte that begins none: right behind a NUMBER", "r1!2;", 2);
        fault("a byte that begins none: the 150th", "r1 2;" + " ".repeat(144) + "!", 149);
        Due.holds("Promise 4, diocese: FAULT: of each byte that begins none, that one's place", () -> {
            for (int c = 0; c < 256; c++) {
                boolean isAny = c >= '0' && c <= '9' || c >= 'a' && c <= 'z' || c == ' ' || c == ';';
                if (!isAny) Due.is("diocese() of byte " + c, with(State.NOTHING, " " + (char) c + "r1 2;").diocese(), -11);
            }
        });
    }

    private static void faultsOfEarlyEnds() {
        String[] items = {"r12 3;", "c12 3 1 4;", "p12 3;", "s12 0 14;"};
        for (String item : items) {
            for (int length = 1; length < item.length(); length++) {
                String text = item.substring(0, length);
                fault("THE TEXT ends too early: \"" + text + "\"", text, length);
            }
        }
        fault("THE TEXT ends too early: blanks behind count", "r1 2  ", 6);
        fault("THE TEXT ends too early: behind whole ITEMS", "r1 2;p1 1;c", 11);
        fault("THE TEXT ends too early: at the 150th byte", "r1 2;" + " ".repeat(144) + "c", 150);
        fault("THE TEXT ends too early: a NUMBER at the 150th byte", "r1 2;" + " ".repeat(143) + "c2", 150);
    }

    private static void faultsThatMeet() {
        fault("the first TOKEN, where two can't stand: beyond, and beyond", "r24 10;", 1);
        fault("the first TOKEN, where two can't stand: beyond, and a byte", "r24!2;", 1);
        fault("the first TOKEN, where two can't stand: a byte, and letters", "r!2;x", 1);
        fault("the first TOKEN, where two can't stand: letters, and an early end", "x1", 0);
        fault("the first TOKEN, where two can't stand: a sixth COCK, and what it tells", FIVE_COCKS + "c24 9 9 9;", 46);
        fault("the first TOKEN, where two can't stand: B less than A, and an early end", "s1 9 8", 5);
        fault("the first TOKEN, where two can't stand: A beyond, B less", "s1 30 8;", 3);
        fault("the first TOKEN, where two can't stand: a fifth, and a sixth COCK", FOUR_PEOPLE + "p0 0;" + FIVE_COCKS, 21);
    }

    private static void faultsStay() {
        Due.holds("Promise 4, diocese: THE TEXT stays at a FAULT: what is missing can be typed", () -> {
            AskedCocks cocks = with(State.HALF, "r5 9");
            Due.is("diocese()", cocks.diocese(), -14);
            Due.is("count(6)", cocks.count(6), 4);
            Due.is("roof(5)", cocks.roof(5), 3);
            Due.is("type(59)", cocks.type(';'), 5);
            Due.is("diocese()", cocks.diocese(), 1);
            Due.is("roof(5)", cocks.roof(5), 9);
        });
        Due.holds("Promise 4, diocese: nothing of what stood ahead of a FAULT is told, nor later", () -> {
            AskedCocks cocks = with(State.NOTHING, "r5 9;c1 1 1 1;p1 1;s1 1 1;x");
            Due.is("diocese()", cocks.diocese(), -36);
            for (int what = 0; what < 6; what++) Due.is("count(" + what + ")", cocks.count(what), 0);
            cocks.clear();
            State.type(cocks, "r6 1;");
            Due.is("diocese()", cocks.diocese(), 1);
            Due.is("roof(5)", cocks.roof(5), 0);
            for (int what = 0; what < 6; what++) Due.is("count(" + what + ")", cocks.count(what), 0);
        });
        fault("the FAULT at 0 is -10", "!", 0);
        Due.holds("Promise 4, diocese: a FAULT where everything is full: nothing changes", TextEdgesTest::faultInAllFull);
    }

    private static void faultInAllFull() {
        AskedCocks cocks = with(State.FULL, "r5 8;" + " ".repeat(144) + "!");
        Due.is("diocese()", cocks.diocese(), -159);
        int[] due = {5, 4, 4, 6, 6, 10, 150};
        for (int what = 0; what < due.length; what++) Due.is("count(" + what + ")", cocks.count(what), due[what]);
        Due.is("roof(5)", cocks.roof(5), 0);
        Due.is("now(1)", cocks.now(1), 31);
        Due.is("undo()", cocks.undo(), 9);
        Due.is("back(0)", cocks.back(0), 11);
        Due.is("back(1)", cocks.back(1), 30);
    }

    private static void readAnew() {
        anew("ROOFS not told are 0", x -> {
            for (int cell = 0; cell < 24; cell++) Due.is("roof(" + cell + ")", x.roof(cell), cell == 1 ? 6 : 0);
        });
        anew("COCKS are those told alone", x -> {
            Due.is("count(0)", x.count(0), 1);
            cockIs(x, 0, 2, 3, 1, 4, 3, 1, 0, 0);
            Due.is("cock(1, 0)", x.cock(1, 0), -1);
        });
        anew("PEOPLE are those told alone", x -> {
            Due.is("count(1)", x.count(1), 1);
            oneIs(x, 0, 6, 1);
            Due.is("one(1, 0)", x.one(1, 0), -1000000);
        });
        anew("SMOKE is that told alone", x -> {
            Due.is("count(2)", x.count(2), 0);
            x.hours(9);
            x.hours(9);
            // in HOUR 10 in CELL 16, where there was SMOKE in all HOURS
            Due.is("saw(0, 0)", x.saw(0, 0), Due.bits(0, 1, 2, 3, 8, 9, 10, 11, 16, 17));
        });
        anew("the HOUR is 0", x -> Due.is("now(0)", x.now(0), 0));
        anew("nobody was SEEN", x -> {
            Due.is("now(3)", x.now(3), 0);
            Due.is("saw(0, 0)", x.saw(0, 0), 0);
        });
        anew("no COCK was ASKED", x -> {
            Due.is("now(1)", x.now(1), 0);
            Due.is("asks(0)", x.asks(0), 0);
        });
        anew("nothing is KNOWN", x -> {
            Due.is("now(2)", x.now(2), 0);
            Due.is("known(0)", x.known(0), 0);
        });
        anew("nothing FACED", x -> {
            Due.is("count(3)", x.count(3), 0);
            Due.is("laws(0)", x.laws(0), 20);
            Due.is("faced(0, 0)", x.faced(0, 0), 1);
        });
        anew("nothing MET", x -> {
            Due.is("count(4)", x.count(4), 0);
            Due.is("ways(0)", x.ways(0), 168);
            Due.is("met(0, 0)", x.met(0, 0), 1);
        });
        anew("nothing to be UNDONE", x -> {
            Due.is("count(5)", x.count(5), 0);
            Due.is("undo()", x.undo(), -2);
        });
        anew("IMAGE 0 is gone", x -> Due.is("back(0)", x.back(0), -2));
        anew("IMAGE 1 is gone", x -> Due.is("back(1)", x.back(1), -2));
        anew("THE TRACE stays", x -> Due.is("trace()", x.trace(), 1 + 11 + 101 + 1011 + 10101 + 100001));
        anew("THE TEXT is empty", x -> {
            Due.is("count(6)", x.count(6), 0);
            Due.is("diocese()", x.diocese(), 0);
        });
    }

    private static void anew(String sentence, Consumer<AskedCocks> test) {
        Due.holds("Promise 4, diocese: read anew where everything was full: " + sentence, () -> {
            AskedCocks cocks = with(State.FULL, "r1 6;c2 3 1 4;p6 4;");
            Due.is("diocese()", cocks.diocese(), 3);
            test.accept(cocks);
        });
    }
}

/** Promises 15 to 18 at their edges: a test for each sentence that names one. */
final class CouldEdgesTest {
    private static final int ALL_CELLS = (1 << 24) - 1;

    public static void main(String[] args) {
        view();
        viewBySides();
        viewByTurns();
        viewByLines();
        blind();
        most();
        mostByHours();
        mostOfLikeOnes();
        odds();
        oddsByHours();
        oddsInLeastTerms();
        Due.end("CouldEdgesTest");
    }

    private static int from(int lowest, int highest) {
        int bits = 0;
        for (int x = lowest; x <= highest; x++) bits |= 1 << x;
        return bits;
    }

    // ---- promise 15

    private static void view() {
        Edges.ofThose("Promise 15, view: c", 3, 5, -1, (cocks, c) -> cocks.view(c, 0));
        Edges.of("Promise 15, view: hour", 0, 29, State.FULL, -1, (cocks, hour) -> cocks.view(0, hour));
        Due.holds("Promise 15, view: both numbers BAD", () -> Unchanged.everywhere(cocks -> cocks.view(5, 30), -1));
        Due.holds("Promise 15, view: nothing is changed", () -> Unchanged.byAsking(cocks -> cocks.view(0, 29)));
        Due.holds("Promise 15, view: SMOKE aside", () -> {
            AskedCocks cocks = Due.told(4, "c0 1 1 0;s5 0 29;s0 0 29;s23 0 29;");
            for (int hour = 0; hour < 30; hour++) Due.is("view(0, " + hour + ")", cocks.view(0, hour), from(1, 23));
        });
        Due.holds("Promise 15, view: of any HOUR, whichever it is now, 30, too", () -> {
            AskedCocks cocks = Due.told(1, "c5 1 1 3;");
            for (int n = 0; n < 4; n++) cocks.hours(9);
            Due.is("view(0, 0)", cocks.view(0, 0), from(6, 23));
            Due.is("view(0, 3)", cocks.view(0, 3), from(0, 4));
            Due.is("view(0, 29)", cocks.view(0, 29), from(0, 4));
        });
        Due.holds("Promise 15, view: of one that was ASKED, as if it was not", () -> {
            AskedCocks cocks = Due.told(1, "c5 1 1 3;");
            cocks.asks(0);
            Due.is("view(0, 0)", cocks.view(0, 0), from(6, 23));
        });
    }

    private static void sees(String sentence, String text, int items, int due) {
        Due.holds("Promise 15, view: " + sentence, () -> Due.is("view(0, 0)", Due.told(items, text).view(0, 0), due));
    }

    private static void viewBySides() {
        sees("SIDE 0 from CELL 0: none", "c0 5 0 0;", 1, 0);
        sees("SIDE 1 from CELL 0: all but its own", "c0 1 1 0;", 1, from(1, 23));
        sees("SIDE 1 from CELL 23: none", "c23 5 1 0;", 1, 0);
        sees("SIDE 0 from CELL 23: all but its own", "c23 1 0 0;", 1, from(0, 22));
        sees("SIDE 0 from CELL 1: CELL 0 alone", "c1 1 0 0;", 1, 1);
        sees("SIDE 1 from CELL 22: CELL 23 alone", "c22 1 1 0;", 1, 1 << 23);
        sees("SIDE 0 from CELL 12", "c12 1 0 0;", 1, from(0, 11));
        sees("SIDE 1 from CELL 12", "c12 1 1 0;", 1, from(13, 23));
        // EYE 14: what is next is hidden behind 14 up to CELL 17
        sees("none between: the next CELL, far below its EYE", "c12 5 1 0;r12 9;r14 9;", 3, from(13, 14) | from(18, 23));
        sees("none between: the next CELL, far above its EYE", "c12 1 1 0;r13 9;", 2, 1 << 13);
    }

    private static void viewByTurns() {
        Due.holds("Promise 15, view: TURN 0: never, up to HOUR 29", () -> {
            AskedCocks cocks = Due.told(1, "c12 1 0 0;");
            for (int hour = 0; hour < 30; hour++) Due.is("view(0, " + hour + ")", cocks.view(0, hour), from(0, 11));
        });
        for (int turn = 1; turn <= 9; turn++) {
            int each = turn;
            Due.holds("Promise 15, view: TURN " + turn + ": the last HOUR ahead of each turn, and the first behind it", () -> {
                AskedCocks cocks = Due.told(1, "c12 1 1 " + each + ";");
                Due.is("view(0, 0)", cocks.view(0, 0), from(13, 23));
                boolean isHigher = true;
                for (int hour = each; hour < 30; hour += each) {
                    Due.is("view ahead", cocks.view(0, hour - 1), isHigher ? from(13, 23) : from(0, 11));
                    isHigher = !isHigher;
                    Due.is("view behind", cocks.view(0, hour), isHigher ? from(13, 23) : from(0, 11));
                }
            });
        }
    }

    /** Whether COCK 0 can see a CELL by the ROOFS as told. */
    private static void line(String sentence, String text, int items, int x, boolean due) {
        Due.holds("Promise 15, view: no higher than the line: " + sentence,
            () -> Due.is("bit " + x, Due.told(items, text).view(0, 0) >> x & 1, due ? 1 : 0));
    }

    private static void viewByLines() {
        // EYE 4 at 10, ROOF 0 at 14: by 1 a CELL
        line("falling, as high as it", "c10 4 1 0;r11 3;", 2, 14, true);
        line("falling, higher by 1", "c10 4 1 0;r11 4;", 2, 14, false);
        line("falling, as high as it next to the CELL", "c10 4 1 0;r13 1;", 2, 14, true);
        line("falling, higher by 1 next to the CELL", "c10 4 1 0;r13 2;", 2, 14, false);
        line("falling to lower CELLS, as high as it", "c10 4 0 0;r9 3;", 2, 6, true);
        line("falling to lower CELLS, higher by 1", "c10 4 0 0;r9 4;", 2, 6, false);
        // EYE 9 at 0, ROOF 0 at 7: 7 and 5 of 7 at 1
        line("falling by no whole number, lower than it by less than 1", "c0 5 1 0;r0 4;r1 7;", 3, 7, true);
        line("falling by no whole number, higher than it by less than 1", "c0 5 1 0;r0 4;r1 8;", 3, 7, false);
        // EYE 1 at 0, ROOF 9 at 8: by 1 a CELL
        line("rising, as high as it", "c0 1 1 0;r8 9;r4 5;", 3, 8, true);
        line("rising, higher by 1", "c0 1 1 0;r8 9;r4 6;", 3, 8, false);
        line("rising, as high as it next to the COCK", "c0 1 1 0;r8 9;r1 2;", 3, 8, true);
        line("rising, higher by 1 next to the COCK", "c0 1 1 0;r8 9;r1 3;", 3, 8, false);
        // ROOF 9 at 3 from EYE 1 at 0: 3 and 2 of 3 at 1
        line("rising by no whole number, lower than it by less than 1", "c0 1 1 0;r3 9;r1 3;", 3, 3, true);
        line("rising by no whole number, higher than it by less than 1", "c0 1 1 0;r3 9;r1 4;", 3, 3, false);
        line("rising to lower CELLS, as high as it", "c23 1 0 0;r15 9;r19 5;", 3, 15, true);
        line("rising to lower CELLS, higher by 1", "c23 1 0 0;r15 9;r19 6;", 3, 15, false);
        line("level, as high as it", "c3 1 1 0;r9 1;r6 1;", 3, 9, true);
        line("level, higher by 1", "c3 1 1 0;r9 1;r6 2;", 3, 9, false);
        line("over all CELLS, by less than 1 of 23", "c0 5 1 0;r22 1;", 2, 23, false);
        line("each of those between: all as high as it", "c10 4 1 0;r11 3;r12 2;r13 1;", 4, 14, true);
        line("each of those between: one of them higher", "c10 4 1 0;r11 3;r12 3;r13 1;", 4, 14, false);
        line("of its own ROOF none is asked", "c10 1 1 0;r10 9;", 2, 14, true);
        line("of ROOFS behind the CELL none is asked", "c10 1 1 0;r15 9;r9 9;", 3, 14, true);
        Due.holds("Promise 15, view: ROOFS as they are NOW, for HOURS gone by, too", () -> {
            AskedCocks cocks = Due.told(1, "c10 4 1 0;");
            cocks.hours(9);
            cocks.builds(13, 2);
            Due.is("bit 14", cocks.view(0, 0) >> 14 & 1, 0);
            cocks.builds(13, 1);
            Due.is("bit 14", cocks.view(0, 0) >> 14 & 1, 1);
            cocks.builds(10, 9);
            cocks.builds(13, 3);
            Due.is("bit 14, by the EYE as it is NOW", cocks.view(0, 0) >> 14 & 1, 1);
        });
    }

    // ---- promise 16

    private static void blind() {
        Edges.of("Promise 16, blind: hour", 0, 29, State.NOTHING, -1, (cocks, hour) -> cocks.blind(hour));
        Due.holds("Promise 16, blind: nothing is changed", () -> Unchanged.byAsking(cocks -> cocks.blind(29)));
        Due.holds("Promise 16, blind: all CELLS, where there is no COCK",
            () -> Due.is("blind(0)", new AskedCocks().blind(0), ALL_CELLS));
        Due.holds("Promise 16, blind: all CELLS, where all COCKS were ASKED",
            () -> Due.is("blind(29)", State.FULL.made().blind(29), ALL_CELLS));
        Due.holds("Promise 16, blind: none, where two see each other's CELLS",
            () -> Due.is("blind(0)", Due.told(2, "c0 1 1 0;c23 1 0 0;").blind(0), 0));
        Due.holds("Promise 16, blind: but the CELL of the only one",
            () -> Due.is("blind(0)", Due.told(2, "c12 1 0 0;c12 1 1 0;").blind(0), 1 << 12));
        Due.holds("Promise 16, blind: by the fifth COCK, if the others were ASKED", () -> {
            AskedCocks cocks = Due.told(5, "c0 1 1 0;c0 1 1 0;c0 1 1 0;c0 1 1 0;c5 1 0 0;");
            for (int c = 0; c < 4; c++) cocks.asks(c);
            Due.is("blind(29)", cocks.blind(29), from(5, 23));
            cocks.asks(4);
            Due.is("blind(29)", cocks.blind(29), ALL_CELLS);
            cocks.undo();
            Due.is("blind(29)", cocks.blind(29), from(5, 23));
            cocks.undo();
            Due.is("blind(29)", cocks.blind(29), 0);
        });
        Due.holds("Promise 16, blind: SMOKE aside", () -> {
            AskedCocks cocks = Due.told(3, "c0 1 1 0;s5 0 29;s0 0 29;");
            Due.is("blind(0)", cocks.blind(0), 1);
            Due.is("blind(29)", cocks.blind(29), 1);
        });
        Due.holds("Promise 16, blind: as they face in that HOUR", () -> {
            AskedCocks cocks = Due.told(1, "c12 1 0 9;");
            Due.is("blind(8)", cocks.blind(8), from(12, 23));
            Due.is("blind(9)", cocks.blind(9), from(0, 12));
            Due.is("blind(26)", cocks.blind(26), from(12, 23));
            Due.is("blind(27)", cocks.blind(27), from(0, 12));
        });
    }

    // ---- promise 17

    private static void most() {
        Edges.of("Promise 17, most: n", 0, 60, State.FULL, -1, (cocks, n) -> cocks.most(n, 0));
        Edges.of("Promise 17, most: n, how much", 0, 60, State.HALF, -1, (cocks, n) -> cocks.most(n, 1));
        Edges.of("Promise 17, most: what", 0, 1, State.HALF, -1, (cocks, what) -> cocks.most(60, what));
        Due.holds("Promise 17, most: both numbers BAD", () -> Unchanged.everywhere(cocks -> cocks.most(61, 2), -1));
        Due.holds("Promise 17, most: nothing is changed", () -> Unchanged.byAsking(cocks -> cocks.most(60, 0)));
        Due.holds("Promise 17, most: how much: nothing is changed", () -> Unchanged.byAsking(cocks -> cocks.most(60, 1)));
        Due.holds("Promise 17, most: in no hours: none, what is KNOWN", () -> {
            AskedCocks cocks = Due.told(3, "c0 1 1 0;c0 1 1 0;p5 3;");
            cocks.hours(3);
            mostIs(cocks, 0, 0, 0);
            cocks.asks(0);
            cocks.hours(1);
            mostIs(cocks, 0, 0, 3);
            mostIs(cocks, 1, 0, 3);
            mostIs(cocks, 2, 2, 4);
        });
        Due.holds("Promise 17, most: of those that SAW none: none, in 60 hours, too", () -> {
            AskedCocks cocks = Due.told(2, "c0 1 0 0;p5 3;");
            cocks.hours(9);
            mostIs(cocks, 60, 0, 0);
        });
        Due.holds("Promise 17, most: where all were ASKED: none, what is KNOWN", () -> {
            AskedCocks cocks = State.FULL.made();
            mostIs(cocks, 60, 0, cocks.now(2));
            mostIs(cocks, 0, 0, cocks.now(3));
        });
    }

    private static void mostIs(AskedCocks cocks, int n, int which, int known) {
        Due.is("most(" + n + ", 0)", cocks.most(n, 0), which);
        Due.is("most(" + n + ", 1)", cocks.most(n, 1), known);
    }

    private static void mostByHours() {
        for (int telling = 1; telling <= 12; telling++) {
            int told = telling;
            Due.holds("Promise 17, most: an hour, and one for each four (cut): to ask one with a TELLING of " + telling, () -> {
                AskedCocks cocks = Due.told(2, "c0 1 1 0;p5 3;");
                for (int i = 0; i < told; i++) cocks.hours(1);
                int takes = 1 + (told - told % 4) / 4;
                mostIs(cocks, takes - 1, 0, 0);
                mostIs(cocks, takes, 1, told);
            });
        }
        Due.holds("Promise 17, most: each is cut for itself: two with 3 TELLINGS take 2 hours", () -> {
            AskedCocks cocks = Due.told(4, "c12 1 0 0;c12 1 1 0;p4 3;p20 3;");
            cocks.hours(3);
            mostIs(cocks, 1, 1, 3);
            mostIs(cocks, 2, 3, 6);
        });
        Due.holds("Promise 17, most: each is cut for itself: two with 4 TELLINGS take 4 hours", () -> {
            AskedCocks cocks = Due.told(4, "c12 1 0 0;c12 1 1 0;p4 3;p20 3;");
            cocks.hours(4);
            mostIs(cocks, 3, 1, 4);
            mostIs(cocks, 4, 3, 8);
        });
        Due.holds("Promise 17, most: two that take 30 hours each: both in 60, one in 59", () -> {
            // in the first HOUR a wall parts them: 118 TELLINGS each
            AskedCocks cocks = Due.told(7, "c0 1 1 0;c23 1 0 0;r12 9;p8 3;p9 3;p14 3;p15 3;");
            cocks.hours(1);
            cocks.builds(12, 0);
            for (int n = 0; n < 4; n++) cocks.hours(9);
            Due.is("cock(0, 7)", cocks.cock(0, 7), 118);
            mostIs(cocks, 29, 0, 0);
            mostIs(cocks, 30, 1, 118);
            mostIs(cocks, 59, 1, 118);
            mostIs(cocks, 60, 3, 120);
        });
        Due.holds("Promise 17, most: three that take 29 hours each: two of them in 58 to 60", () -> {
            AskedCocks cocks = DoneEdgesTest.threeDearOnes();
            mostIs(cocks, 28, 0, 0);
            mostIs(cocks, 29, 1, 112);
            mostIs(cocks, 57, 1, 112);
            mostIs(cocks, 58, 3, 116);
            mostIs(cocks, 60, 3, 116);
            cocks.asks(0);
            mostIs(cocks, 58, 6, 120);
        });
        Due.holds("Promise 17, most: one that takes 31 hours, all four in 30 HOURS", () -> {
            AskedCocks cocks = Due.told(5, "c0 1 1 0;p5 3;p6 3;p7 3;p8 3;");
            for (int n = 0; n < 4; n++) cocks.hours(9);
            mostIs(cocks, 30, 0, 0);
            mostIs(cocks, 31, 1, 120);
        });
    }

    private static void mostOfLikeOnes() {
        Due.holds("Promise 17, most: of like ones the least bits", () -> {
            AskedCocks cocks = Due.told(4, "c2 1 1 0;c1 1 1 0;c0 1 1 0;p5 3;");
            cocks.hours(3);
            mostIs(cocks, 60, 1, 3);
            cocks.asks(1);
            mostIs(cocks, 60, 0, 3);
        });
        Due.holds("Promise 17, most: of like ones the fewest, though of more bits", () -> {
            AskedCocks cocks = Due.told(5, "c12 1 0 0;c12 1 1 0;c0 1 1 0;p4 3;p20 3;");
            cocks.hours(1);
            mostIs(cocks, 1, 4, 2);
            mostIs(cocks, 2, 4, 2);
            mostIs(cocks, 60, 4, 2);
        });
        Due.holds("Promise 17, most: the more KNOWN, though of more COCKS and less bits", () -> {
            AskedCocks cocks = Due.told(6, "c12 1 0 0;c12 1 1 0;c0 1 1 0;p4 3;p20 3;s20 0 0;");
            cocks.hours(4);
            // 4, 3 and 7 TELLINGS: 2, 1 and 2 hours
            mostIs(cocks, 1, 2, 3);
            mostIs(cocks, 2, 4, 7);
            mostIs(cocks, 3, 4, 7);
            cocks.asks(2);
            mostIs(cocks, 60, 0, 7);
        });
        Due.holds("Promise 17, most: of like two the least bits: 1 and 2 ahead of 1 and 3", () -> {
            AskedCocks cocks = Due.told(6, "c12 1 1 1;c12 1 0 0;c12 1 1 0;c11 1 1 0;p4 3;p20 3;");
            cocks.hours(2);
            mostIs(cocks, 60, 6, 4);
            mostIs(cocks, 1, 1, 2);
        });
        Due.holds("Promise 17, most: all five, where each alone SAW some", () -> {
            AskedCocks cocks = Due.told(11, "c0 1 1 0;c4 1 1 0;c8 1 1 0;c12 1 1 0;c16 1 1 0;"
                + "r2 9;r6 9;r10 9;r14 9;r18 9;p1 4;");
            for (int n = 0; n < 4; n++) cocks.hours(9);
            mostIs(cocks, 4, 15, 8);
            mostIs(cocks, 5, 31, 10);
            mostIs(cocks, 60, 31, 10);
        });
    }

    // ---- promise 18

    private static void odds() {
        Edges.ofThose("Promise 18, odds: c", 3, 5, -1, (cocks, c) -> cocks.odds(c, 1, 0, 1, 5, 0));
        Edges.of("Promise 18, odds: x", 0, 23, State.FULL, -1, (cocks, x) -> cocks.odds(0, x, 0, 7, 5, 0));
        Edges.of("Promise 18, odds: from, HOUR by HOUR", 0, 29, State.FULL, -1, (cocks, h) -> cocks.odds(0, 1, h, h, 5, 1));
        Edges.of("Promise 18, odds: from, to 29", 22, 29, State.FULL, -1, (cocks, from) -> cocks.odds(0, 1, from, 29, 5, 0));
        Edges.of("Promise 18, odds: from, to 7", 0, 7, State.FULL, -1, (cocks, from) -> cocks.odds(0, 1, from, 7, 5, 0));
        Edges.of("Promise 18, odds: to, from 0", 0, 7, State.FULL, -1, (cocks, to) -> cocks.odds(0, 1, 0, to, 5, 1));
        Edges.of("Promise 18, odds: to, from 22", 22, 29, State.FULL, -1, (cocks, to) -> cocks.odds(0, 1, 22, to, 5, 1));
        Edges.of("Promise 18, odds: to, from 29", 29, 29, State.FULL, -1, (cocks, to) -> cocks.odds(0, 1, 29, to, 5, 1));
        Edges.of("Promise 18, odds: chance", 0, 10, State.FULL, -1, (cocks, chance) -> cocks.odds(0, 1, 0, 7, chance, 0));
        Edges.of("Promise 18, odds: what", 0, 1, State.FULL, -1, (cocks, what) -> cocks.odds(0, 1, 0, 7, 5, what));
        refused("b earlier than a by 1", 10, 9);
        refused("b earlier than a, where both are no HOURS", 31, 30);
        refused("b earlier than a, 29 and 0", 29, 0);
        refused("9 HOURS, the first ones", 0, 8);
        refused("9 HOURS, the last ones", 21, 29);
        refused("all 30 HOURS", 0, 29);
        refused("HOURS up to 30", 30, 30);
        refused("HOURS from -1 on", -1, 0);
        refused("from the least number to the greatest", Integer.MIN_VALUE, Integer.MAX_VALUE);
        refused("from the greatest number to the least", Integer.MAX_VALUE, Integer.MIN_VALUE);
        refused("from -1 to the greatest number", -1, Integer.MAX_VALUE);
        Due.holds("Promise 18, odds: all numbers BAD", () -> Unchanged.everywhere(cocks -> cocks.odds(5, 24, 30, -1, 11, 2), -1));
        Due.holds("Promise 18, odds: nothing is changed", () -> Unchanged.byAsking(cocks -> cocks.odds(0, 3, 0, 7, 5, 0)));
        Due.holds("Promise 18, odds: lower number: nothing is changed",
            () -> Unchanged.byAsking(cocks -> cocks.odds(0, 3, 0, 7, 5, 1)));
    }

    private static void refused(String sentence, int from, int to) {
        Due.holds("Promise 18, odds: " + sentence + ", is refused, and nothing changes",
            () -> Unchanged.everywhere(cocks -> cocks.odds(0, 1, from, to, 5, 0), -1));
    }

    private static void odds(String sentence, AskedCocks cocks, int x, int[] hours, int chance, int upper, int lower) {
        Due.holds("Promise 18, odds: " + sentence, () -> {
            Due.is("upper", cocks.odds(0, x, hours[0], hours[1], chance, 0), upper);
            Due.is("lower", cocks.odds(0, x, hours[0], hours[1], chance, 1), lower);
        });
    }

    private static int[] hours(int from, int to) {
        return new int[] {from, to};
    }

    private static void oddsByHours() {
        AskedCocks cocks = Due.told(2, "c10 1 1 9;s12 0 29;");
        odds("one HOUR, from 0 to 0", cocks, 12, hours(0, 0), 3, 7, 10);
        odds("one HOUR, from 29 to 29, in which it faces away", cocks, 12, hours(29, 29), 3, 0, 1);
        odds("one HOUR, from 29 to 29, in which it faces there", cocks, 8, hours(29, 29), 3, 7, 10);
        odds("8 HOURS, the most, all in VIEW", cocks, 12, hours(0, 7), 3, 99993439, 100000000);
        odds("8 HOURS, the last one not in VIEW", cocks, 12, hours(2, 9), 3, 9997813, 10000000);
        odds("8 HOURS, the last one alone in VIEW", cocks, 8, hours(2, 9), 3, 7, 10);
        odds("8 HOURS, the first one alone in VIEW", cocks, 12, hours(8, 15), 3, 7, 10);
        odds("8 HOURS up to 29, the last 3 not in VIEW", cocks, 12, hours(22, 29), 3, 99757, 100000);
        odds("no HOUR in VIEW: 0 of 1", cocks, 12, hours(9, 16), 3, 0, 1);
        odds("its own CELL: 0 of 1", cocks, 10, hours(0, 7), 3, 0, 1);
        odds("the next CELL, with no SMOKE told: as any other", cocks, 11, hours(0, 0), 3, 7, 10);
        odds("CELL 23, the last", cocks, 23, hours(0, 1), 3, 91, 100);
        odds("CELL 0, the first", cocks, 0, hours(8, 10), 3, 91, 100);
        AskedCocks hidden = Due.told(2, "c10 1 1 0;r11 9;");
        odds("hidden by a ROOF: 0 of 1", hidden, 12, hours(0, 7), 3, 0, 1);
        AskedCocks built = Due.told(2, "c10 1 1 0;r11 9;");
        built.builds(11, 0);
        built.asks(0);
        for (int n = 0; n < 4; n++) built.hours(9);
        odds("ROOFS as they are NOW, though it was ASKED, though the HOURS are gone", built, 12, hours(0, 1), 3, 91, 100);
    }

    private static void oddsInLeastTerms() {
        AskedCocks cocks = Due.told(1, "c10 1 1 0;");
        int[][] one = {{1, 1}, {9, 10}, {4, 5}, {7, 10}, {3, 5}, {1, 2}, {2, 5}, {3, 10}, {1, 5}, {1, 10}, {0, 1}};
        int[][] eight = {{1, 1}, {99999999, 100000000}, {390624, 390625}, {99993439, 100000000}, {390369, 390625},
            {255, 256}, {384064, 390625}, {94235199, 100000000}, {325089, 390625}, {56953279, 100000000}, {0, 1}};
        for (int chance = 0; chance <= 10; chance++) {
            String by = "in least terms by " + chance + " of 10, in ";
            odds(by + "one HOUR", cocks, 12, hours(0, 0), chance, one[chance][0], one[chance][1]);
            odds(by + "8 HOURS", cocks, 12, hours(0, 7), chance, eight[chance][0], eight[chance][1]);
            odds(by + "8 HOURS, not in VIEW", cocks, 8, hours(0, 7), chance, 0, 1);
        }
    }
}

/** Promises 15 to 18: view, blind, most, odds. */
final class CouldTest {
    public static void main(String[] args) {
        view();
        lines();
        blind();
        most();
        mostOfLikeOnes();
        odds();
        oddsInLeastTerms();
        Due.end("CouldTest");
    }

    private static void view() {
        AskedCocks cocks = Due.told(4, "c2 1 0 3;c0 1 0 0;c23 1 1 0;s1 0 29;");
        Due.is("lower cells, beside smoke", cocks.view(0, 0), Due.bits(0, 1));
        Due.is("lower cells", cocks.view(0, 2), Due.bits(0, 1));
        Due.is("higher cells", cocks.view(0, 3), 0xFFFFF8);
        Due.is("higher cells", cocks.view(0, 5), 0xFFFFF8);
        Due.is("lower cells again", cocks.view(0, 6), Due.bits(0, 1));
        Due.is("at the lower end", cocks.view(1, 0), 0);
        Due.is("at the higher end", cocks.view(2, 0), 0);
        Due.is("in the last hour", cocks.view(0, 29), 0xFFFFF8);
        Due.is("view(0, 30)", cocks.view(0, 30), -1);
        Due.is("view(0, -1)", cocks.view(0, -1), -1);
        Due.is("view(3, 0)", cocks.view(3, 0), -1);
        Due.is("view(-1, 0)", cocks.view(-1, 0), -1);
        cocks.asks(0);
        Due.is("of one asked", cocks.view(0, 0), Due.bits(0, 1));
    }

    private static void lines() {
        // eye 4 at 10; to 14 (roof 0) the line is 3 at 11, 2 at 12, 1 at 13
        AskedCocks cocks = Due.told(3, "c10 4 1 0;r11 3;r12 2;");
        Due.is("a roof at the line hides nothing", cocks.view(0, 0) >> 14 & 1, 1);
        Due.is("but what is nearer", cocks.view(0, 0) >> 13 & 1, 0);
        cocks.builds(13, 1);
        Due.is("three at the line", cocks.view(0, 0) >> 14 & 1, 1);
        cocks.builds(13, 2);
        Due.is("one is over it", cocks.view(0, 0) >> 14 & 1, 0);
        Due.is("a higher roof is seen", cocks.view(0, 0) >> 13 & 1, 1);
        cocks = Due.told(4, "r20 1;c20 1 0 0;r17 9;r0 9;");
        Due.is("down to 17, then none up to 9 at 0", cocks.view(0, 0), Due.bits(19, 18, 17));
        cocks.builds(17, 3);
        Due.is("by the line up to 9 at 0: 3 + 1/20 at 17", cocks.view(0, 0), Due.bits(19, 18, 17, 0));
        cocks.builds(0, 8);
        Due.is("by that up to 8: 2 + 18/20", cocks.view(0, 0), Due.bits(19, 18, 17));
    }

    private static void blind() {
        AskedCocks cocks = Due.told(3, "c4 1 0 2;c20 1 1 0;s0 0 29;");
        Due.is("blind(0)", cocks.blind(0), 0xFFFFFF & ~Due.bits(0, 1, 2, 3, 21, 22, 23));
        Due.is("blind(2)", cocks.blind(2), Due.bits(0, 1, 2, 3, 4));
        cocks.asks(1);
        Due.is("without one asked", cocks.blind(0), 0xFFFFFF & ~Due.bits(0, 1, 2, 3));
        cocks.asks(0);
        Due.is("without all", cocks.blind(29), 0xFFFFFF);
        Due.is("blind(-1)", cocks.blind(-1), -1);
        Due.is("blind(30)", cocks.blind(30), -1);
    }

    private static void most() {
        // 0 sees both (8 tellings: 3 hours), 1 the one (4: 2 hours), 2 the other (3: 1 hour)
        AskedCocks cocks = Due.told(6, "c0 1 1 0;c12 1 0 0;c12 1 1 0;p8 3;p16 3;s16 0 0;");
        cocks.hours(4);
        Due.is("telling 0", cocks.cock(0, 7), 7);
        Due.is("telling 1", cocks.cock(1, 7), 4);
        Due.is("telling 2", cocks.cock(2, 7), 3);
        int[][] due = {{0, 0}, {4, 3}, {1, 7}, {1, 7}, {1, 7}};
        for (int n = 0; n < due.length; n++) {
            Due.is("most(" + n + ", 0)", cocks.most(n, 0), due[n][0]);
            Due.is("most(" + n + ", 1)", cocks.most(n, 1), due[n][1]);
        }
        cocks.asks(0);
        Due.is("nothing more", cocks.most(60, 0), 0);
        Due.is("what is known comes to it", cocks.most(0, 1), 7);
        Due.is("most(-1, 0)", cocks.most(-1, 0), -1);
        Due.is("most(61, 0)", cocks.most(61, 0), -1);
        Due.is("most(0, -1)", cocks.most(0, -1), -1);
        Due.is("most(0, 2)", cocks.most(0, 2), -1);
    }

    private static void mostOfLikeOnes() {
        AskedCocks cocks = Due.told(6, "c12 1 0 0;c12 1 1 0;c0 1 1 0;c11 1 0 0;p4 3;p20 3;");
        cocks.hours(3);
        Due.is("of like ones the least", cocks.most(1, 0), 1);
        Due.is("of like ones the fewest", cocks.most(2, 0), 4);
        Due.is("how much", cocks.most(2, 1), 6);
        cocks.asks(0);
        Due.is("less that one", cocks.most(1, 0), 2);
        Due.is("how much", cocks.most(1, 1), 6);
        Due.is("how much in none", cocks.most(0, 1), 3);
        cocks = Due.told(4, "c12 1 0 0;c12 1 1 0;p4 3;p20 3;");
        cocks.hours(1);
        Due.is("by one more than none", cocks.most(1, 0), 1);
        Due.is("by one more than one", cocks.most(2, 0), 3);
        Due.is("how much", cocks.most(2, 1), 2);
        // 4 tellings each: 2 hours each
        cocks = Due.told(4, "c12 1 0 0;c12 1 1 0;p4 3;p20 3;");
        cocks.hours(4);
        Due.is("most(1, 0)", cocks.most(1, 0), 0);
        Due.is("most(3, 0)", cocks.most(3, 0), 1);
        Due.is("most(4, 0)", cocks.most(4, 0), 3);
        Due.is("most(4, 1)", cocks.most(4, 1), 8);
    }

    private static void odds() {
        AskedCocks cocks = Due.told(2, "c10 1 1 2;s12 0 29;");
        fraction(cocks, 12, 0, 0, 3, 7, 10);
        fraction(cocks, 12, 0, 1, 3, 91, 100);
        fraction(cocks, 12, 0, 3, 3, 91, 100);
        fraction(cocks, 8, 0, 3, 3, 91, 100);
        fraction(cocks, 12, 2, 3, 3, 0, 1);
        fraction(cocks, 10, 0, 7, 3, 0, 1);
        fraction(cocks, 12, 29, 29, 1, 9, 10);
        fraction(cocks, 12, 22, 29, 9, 3439, 10000);
        cocks.asks(0);
        fraction(cocks, 12, 0, 0, 3, 7, 10);
        cocks.builds(11, 9);
        fraction(cocks, 12, 0, 0, 3, 0, 1);
        bad(cocks.odds(-1, 0, 0, 0, 0, 0));
        bad(cocks.odds(1, 0, 0, 0, 0, 0));
        bad(cocks.odds(0, -1, 0, 0, 0, 0));
        bad(cocks.odds(0, 24, 0, 0, 0, 0));
        bad(cocks.odds(0, 0, -1, 0, 0, 0));
        bad(cocks.odds(0, 0, 30, 30, 0, 0));
        bad(cocks.odds(0, 0, 29, 30, 0, 0));
        bad(cocks.odds(0, 0, 1, 0, 0, 0));
        bad(cocks.odds(0, 0, 0, 8, 0, 0));
        bad(cocks.odds(0, 0, 0, 0, -1, 0));
        bad(cocks.odds(0, 0, 0, 0, 11, 0));
        bad(cocks.odds(0, 0, 0, 0, 0, -1));
        bad(cocks.odds(0, 0, 0, 0, 0, 2));
        bad(cocks.odds(0, 0, Integer.MIN_VALUE, Integer.MAX_VALUE, 0, 0));
    }

    private static void oddsInLeastTerms() {
        AskedCocks cocks = Due.told(1, "c10 1 1 0;");
        fraction(cocks, 12, 0, 0, 0, 1, 1);
        fraction(cocks, 12, 0, 7, 0, 1, 1);
        fraction(cocks, 12, 0, 7, 10, 0, 1);
        fraction(cocks, 12, 0, 0, 5, 1, 2);
        fraction(cocks, 12, 0, 2, 5, 7, 8);
        fraction(cocks, 12, 0, 0, 4, 3, 5);
        fraction(cocks, 12, 0, 1, 6, 16, 25);
        fraction(cocks, 12, 0, 1, 8, 9, 25);
        fraction(cocks, 12, 0, 7, 2, 390624, 390625);
        fraction(cocks, 12, 0, 7, 7, 100000000 - 5764801, 100000000);
        fraction(cocks, 8, 0, 7, 0, 0, 1);
        fraction(cocks, 8, 0, 7, 10, 0, 1);
    }

    private static void fraction(AskedCocks cocks, int x, int from, int to, int chance, int upper, int lower) {
        String call = "odds(0, " + x + ", " + from + ", " + to + ", " + chance + ", ";
        Due.is(call + "0)", cocks.odds(0, x, from, to, chance, 0), upper);
        Due.is(call + "1)", cocks.odds(0, x, from, to, chance, 1), lower);
    }

    private static void bad(int answer) {
        Due.is("odds that is BAD", answer, -1);
    }
}

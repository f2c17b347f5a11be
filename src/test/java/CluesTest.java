/** Promises 19 to 25: faced, laws, tryNext, met, ways, falses, forget. */
final class CluesTest {
    public static void main(String[] args) {
        faced();
        laws();
        tries();
        met();
        ways();
        falses();
        forgetting();
        Due.end("CluesTest");
    }

    private static void faced() {
        AskedCocks cocks = new AskedCocks();
        Due.is("faced(-1, 0)", cocks.faced(-1, 0), -1);
        Due.is("faced(30, 0)", cocks.faced(30, 0), -1);
        Due.is("faced(0, -1)", cocks.faced(0, -1), -1);
        Due.is("faced(0, 2)", cocks.faced(0, 2), -1);
        for (int n = 1; n <= 6; n++) Due.is("faced " + n, cocks.faced(29, n % 2), n);
        Due.is("faced 7", cocks.faced(29, 0), -3);
        Due.is("BAD ahead of FULL", cocks.faced(30, 0), -1);
        Due.is("count(3)", cocks.count(3), 6);
    }

    private static void laws() {
        AskedCocks cocks = new AskedCocks();
        lawsAre(cocks, 20, 0);
        cocks.faced(0, 1);
        lawsAre(cocks, 10, 10);
        cocks.faced(3, 0);
        // turned once by 3: each 3 and 2 (at 2 alone), each 1 (thrice)
        lawsAre(cocks, 3, 11);
        cocks.faced(1, 1);
        lawsAre(cocks, 2, 12);
        cocks.faced(2, 1);
        lawsAre(cocks, 1, 13);
        cocks.faced(0, 0);
        lawsAre(cocks, 0, -9);
        cocks.forget();
        cocks.faced(1, 0);
        cocks.faced(3, 0);
        cocks.faced(8, 0);
        cocks.faced(9, 1);
        lawsAre(cocks, 1, 9);
        Due.is("laws(-1)", cocks.laws(-1), -1);
        Due.is("laws(2)", cocks.laws(2), -1);
    }

    private static void tries() {
        AskedCocks cocks = new AskedCocks();
        Due.is("of all", cocks.tryNext(), 0);
        cocks.faced(0, 0);
        Due.is("of ten", cocks.tryNext(), bestHour(0));
        cocks.faced(1, 0);
        cocks.faced(2, 0);
        cocks.faced(3, 1);
        Due.is("laws(0)", cocks.laws(0), 1);
        Due.is("of one", cocks.tryNext(), -9);
        cocks.faced(3, 0);
        Due.is("of none", cocks.tryNext(), -9);
        cocks.forget();
        cocks.faced(0, 1);
        cocks.faced(3, 0);
        cocks.faced(1, 1);
        Due.is("laws(0)", cocks.laws(0), 2);
        Due.is("of two", cocks.tryNext(), 2);
    }

    /** The hour that parts the laws of one side best, by turning each by hand. */
    private static int bestHour(int side) {
        int[] facesNow = new int[10];
        java.util.Arrays.fill(facesNow, side);
        int best = -9;
        int bestGreater = 10;
        for (int hour = 0; hour < 30; hour++) {
            int ones = 0;
            for (int turn = 0; turn < 10; turn++) {
                if (turn > 0 && hour > 0 && hour % turn == 0) facesNow[turn] = 1 - facesNow[turn];
                ones += facesNow[turn];
            }
            int greater = Math.max(ones, 10 - ones);
            if (greater < bestGreater) {
                bestGreater = greater;
                best = hour;
            }
        }
        return best;
    }

    private static void met() {
        AskedCocks cocks = new AskedCocks();
        Due.is("met(-1, 0)", cocks.met(-1, 0), -1);
        Due.is("met(24, 0)", cocks.met(24, 0), -1);
        Due.is("met(0, -1)", cocks.met(0, -1), -1);
        Due.is("met(0, 30)", cocks.met(0, 30), -1);
        for (int n = 1; n <= 6; n++) Due.is("met " + n, cocks.met(23, 29), n);
        Due.is("met 7", cocks.met(0, 0), -3);
        Due.is("BAD ahead of FULL", cocks.met(24, 0), -1);
        Due.is("count(4)", cocks.count(4), 6);
    }

    private static void ways() {
        AskedCocks cocks = new AskedCocks();
        waysAre(cocks, 168, 0);
        cocks.met(10, 2);
        // from 4 by 3, 6 by 2, .. 16 by -3
        waysAre(cocks, 7, 46);
        cocks.met(10, 2);
        waysAre(cocks, 7, 46);
        cocks.met(7, 5);
        waysAre(cocks, 1, 122);
        cocks.met(7, 6);
        waysAre(cocks, 0, -9);
        cocks.forget();
        cocks.met(23, 29);
        waysAre(cocks, 1, 233);
        cocks.forget();
        cocks.met(0, 1);
        waysAre(cocks, 4, 3);
        Due.is("ways(-1)", cocks.ways(-1), -1);
        Due.is("ways(2)", cocks.ways(2), -1);
    }

    private static void falses() {
        AskedCocks cocks = new AskedCocks();
        falsesAre(cocks, 0, 0);
        cocks.met(10, 2);
        falsesAre(cocks, 0, 46);
        cocks.met(12, 2);
        falsesAre(cocks, 1, 46);
        cocks.met(12, 2);
        falsesAre(cocks, 1, 66);
        cocks.met(7, 5);
        falsesAre(cocks, 2, 66);
        cocks.met(4, 8);
        falsesAre(cocks, 2, 122);
        cocks.met(3, 9);
        falsesAre(cocks, 2, 122);
        Due.is("nothing is let go of", cocks.count(4), 6);
        cocks.forget();
        cocks.met(20, 1);
        cocks.met(17, 2);
        falsesAre(cocks, 0, 230);
        cocks.forget();
        // from 24 by -3 would do, but no CELL is there
        cocks.met(21, 1);
        cocks.met(18, 2);
        waysAre(cocks, 0, -9);
        falsesAre(cocks, 1, 126);
        Due.is("falses(-1)", cocks.falses(-1), -1);
        Due.is("falses(2)", cocks.falses(2), -1);
    }

    private static void forgetting() {
        AskedCocks cocks = Due.told(1, "c0 1 1 0;");
        Due.is("forget of none", cocks.forget(), 0);
        cocks.faced(1, 1);
        cocks.faced(1, 1);
        cocks.met(1, 1);
        cocks.hours(2);
        Due.is("forget", cocks.forget(), 3);
        Due.is("faced", cocks.count(3), 0);
        Due.is("met", cocks.count(4), 0);
        lawsAre(cocks, 20, 0);
        waysAre(cocks, 168, 0);
        Due.is("all else stays", cocks.now(0), 2);
        Due.is("all else stays", cocks.count(5), 1);
    }

    private static void lawsAre(AskedCocks cocks, int amount, int first) {
        Due.is("laws(0)", cocks.laws(0), amount);
        Due.is("laws(1)", cocks.laws(1), first);
    }

    private static void waysAre(AskedCocks cocks, int amount, int first) {
        Due.is("ways(0)", cocks.ways(0), amount);
        Due.is("ways(1)", cocks.ways(1), first);
    }

    private static void falsesAre(AskedCocks cocks, int fewest, int which) {
        Due.is("falses(0)", cocks.falses(0), fewest);
        Due.is("falses(1)", cocks.falses(1), which);
    }
}

/** Promises 5 to 9: roof, cock, one, saw, known. */
final class ToldTest {
    public static void main(String[] args) {
        roofs();
        cocks();
        turning();
        people();
        sawAndKnown();
        Due.end("ToldTest");
    }

    private static void roofs() {
        AskedCocks cocks = Due.told(2, "r0 3;r23 9;");
        Due.is("roof(0)", cocks.roof(0), 3);
        Due.is("roof(23)", cocks.roof(23), 9);
        Due.is("roof(22)", cocks.roof(22), 0);
        Due.is("roof(-1)", cocks.roof(-1), -1);
        Due.is("roof(24)", cocks.roof(24), -1);
        cocks.builds(0, 1);
        Due.is("roof(0) built", cocks.roof(0), 1);
    }

    private static void cocks() {
        AskedCocks cocks = Due.told(4, "r4 6;c4 3 1 2;c20 5 0 0;p6 3;");
        int[] due = {4, 3, 1, 2, 9, 1, 0, 0};
        for (int what = 0; what < due.length; what++) Due.is("cock(0, " + what + ")", cocks.cock(0, what), due[what]);
        int[] due1 = {20, 5, 0, 0, 5, 0, 0, 0};
        for (int what = 0; what < due1.length; what++) Due.is("cock(1, " + what + ")", cocks.cock(1, what), due1[what]);
        Due.is("cock(0, -1)", cocks.cock(0, -1), -1);
        Due.is("cock(0, 8)", cocks.cock(0, 8), -1);
        Due.is("cock(-1, 0)", cocks.cock(-1, 0), -1);
        Due.is("cock(2, 0)", cocks.cock(2, 0), -1);
        Due.is("cock(5, 0)", cocks.cock(5, 0), -1);
        cocks.builds(4, 0);
        Due.is("eye by the roof now", cocks.cock(0, 4), 3);
        cocks.hours(2);
        Due.is("turned", cocks.cock(0, 5), 0);
        Due.is("side as told", cocks.cock(0, 2), 1);
        Due.is("telling", cocks.cock(0, 7), 2);
        cocks.asks(0);
        Due.is("asked", cocks.cock(0, 6), 1);
        Due.is("not asked", cocks.cock(1, 6), 0);
        Due.is("telling of one asked", cocks.cock(0, 7), 2);
        Due.is("side of one asked", cocks.cock(0, 5), 0);
    }

    private static void turning() {
        AskedCocks cocks = Due.told(5, "c0 1 0 0;c0 1 1 0;c0 1 0 1;c0 1 1 4;c0 1 0 9;");
        for (int hour = 0; hour <= 30; hour++) {
            Due.is("never turns", cocks.cock(0, 5), 0);
            Due.is("never turns", cocks.cock(1, 5), 1);
            Due.is("turns each hour, in " + hour, cocks.cock(2, 5), hour % 2);
            Due.is("turns each 4, in " + hour, cocks.cock(3, 5), hour % 8 < 4 ? 1 : 0);
            Due.is("turns each 9, in " + hour, cocks.cock(4, 5), hour % 18 < 9 ? 0 : 1);
            cocks.hours(1);
        }
    }

    private static void people() {
        AskedCocks cocks = Due.told(4, "p5 0;p20 6;p0 3;p3 4;");
        int[][] due = {{5, -3, 5}, {20, 3, 20}, {0, 0, 0}, {3, 1, 3}};
        for (int p = 0; p < 4; p++) {
            for (int what = 0; what < 3; what++) Due.is("one(" + p + ", " + what + ")", cocks.one(p, what), due[p][what]);
        }
        cocks.hours(1);
        Due.is("one(0, 2) in 1", cocks.one(0, 2), 2);
        Due.is("one(1, 2) in 1", cocks.one(1, 2), 23);
        cocks.hours(1);
        Due.is("one(0, 2) in 2", cocks.one(0, 2), -9);
        Due.is("one(1, 2) in 2", cocks.one(1, 2), -9);
        Due.is("one(2, 2) in 2", cocks.one(2, 2), 0);
        cocks.hours(9);
        cocks.hours(9);
        Due.is("one(3, 2) in 20", cocks.one(3, 2), 23);
        cocks.hours(9);
        cocks.hours(9);
        Due.is("one(3, 2) in 30", cocks.one(3, 2), -9);
        Due.is("one(2, 2) in 30", cocks.one(2, 2), 0);
        Due.is("one(0, 3)", cocks.one(0, 3), -1000000);
        Due.is("one(0, -1)", cocks.one(0, -1), -1000000);
        Due.is("one(-1, 0)", cocks.one(-1, 0), -1000000);
        Due.is("one(4, 0)", cocks.one(4, 0), -1000000);
        Due.is("one of none", new AskedCocks().one(0, 0), -1000000);
    }

    private static void sawAndKnown() {
        AskedCocks cocks = Due.told(4, "c3 1 1 0;c8 1 0 0;p2 4;p9 3;");
        cocks.hours(9);
        Due.is("saw(0, 0)", cocks.saw(0, 0), Due.bits(2, 3, 4, 5, 6, 7, 8));
        Due.is("saw(1, 0)", cocks.saw(1, 0), Due.bits(0, 1, 2, 3, 4, 5));
        Due.is("saw(0, 1)", cocks.saw(0, 1), 0x1FF);
        Due.is("saw(1, 1)", cocks.saw(1, 1), 0);
        Due.is("known(0) of none asked", cocks.known(0), 0);
        cocks.asks(1);
        Due.is("known(0)", cocks.known(0), Due.bits(0, 1, 2, 3, 4, 5));
        Due.is("known(1)", cocks.known(1), 0);
        cocks.asks(0);
        Due.is("known(0) of two", cocks.known(0), 0x1FF);
        Due.is("known(1) of two", cocks.known(1), 0x1FF);
        Due.is("saw(-1, 0)", cocks.saw(-1, 0), -1);
        Due.is("saw(2, 0)", cocks.saw(2, 0), -1);
        Due.is("saw(0, -1)", cocks.saw(0, -1), -1);
        Due.is("saw(0, 2)", cocks.saw(0, 2), -1);
        Due.is("known(-1)", cocks.known(-1), -1);
        Due.is("known(2)", cocks.known(2), -1);
    }
}

/** Promises 10 to 14: hours, builds, asks, undo, now. */
final class DoneTest {
    public static void main(String[] args) {
        hours();
        smoke();
        allRowsInUse();
        asItIsInEachHour();
        building();
        asking();
        undoing();
        undoingTen();
        undoingMixedTen();
        nowAndCover();
        Due.end("DoneTest");
    }

    private static void hours() {
        AskedCocks cocks = Due.told(2, "c0 1 1 0;p1 3;");
        Due.is("hours(0)", cocks.hours(0), -1);
        Due.is("hours(10)", cocks.hours(10), -1);
        Due.is("hours(-1)", cocks.hours(-1), -1);
        Due.is("hours(1)", cocks.hours(1), 1);
        Due.is("saw", cocks.saw(0, 0), 1);
        Due.is("hours(9)", cocks.hours(9), 10);
        Due.is("hours(9)", cocks.hours(9), 19);
        Due.is("hours(9)", cocks.hours(9), 28);
        Due.is("as many as there are", cocks.hours(5), 30);
        Due.is("saw in all", cocks.saw(0, 0), (1 << 30) - 1);
        Due.is("hours(1) in 30", cocks.hours(1), -2);
        Due.is("BAD ahead of STATE", cocks.hours(10), -1);
        Due.is("hours of one call", cocks.undo(), 4);
        Due.is("hour", cocks.now(0), 28);
        Due.is("saw", cocks.saw(0, 0), (1 << 28) - 1);
    }

    private static void smoke() {
        AskedCocks cocks = Due.told(5, "c0 1 1 0;p5 3;p6 3;s5 2 4;s5 6 6;");
        cocks.hours(9);
        Due.is("saw beside smoke", cocks.saw(0, 0), Due.bits(0, 1, 5, 7, 8));
        Due.is("saw where none is", cocks.saw(0, 1), 0x1FF);
    }

    private static void allRowsInUse() {
        AskedCocks cocks = Due.told(13, "c0 1 1 0;c1 1 1 0;c2 1 1 0;c3 1 1 0;c4 1 1 0;"
            + "p9 3;p10 3;p11 3;p12 3;s9 0 0;s10 1 1;s11 2 2;s12 3 3;");
        Due.is("blind by five", cocks.blind(0), Due.bits(0));
        Due.is("hours(4)", cocks.hours(4), 4);
        for (int c = 0; c < 5; c++) {
            for (int p = 0; p < 4; p++) Due.is("saw(" + c + ", " + p + ")", cocks.saw(c, p), 15 & ~(1 << p));
        }
        Due.is("now(3)", cocks.now(3), 12);
        Due.retold(cocks, 3, "c20 1 1 0;p9 3;s1 0 0;");
        Due.is("blind by one", cocks.blind(0), 0xFFFFFF & ~Due.bits(21, 22, 23));
        Due.is("hours(1)", cocks.hours(1), 1);
        Due.is("now(3)", cocks.now(3), 0);
        Due.retold(cocks, 3, "c0 1 1 0;p10 3;s1 0 0;");
        Due.is("hours(2)", cocks.hours(2), 2);
        Due.is("no smoke of an earlier text", cocks.saw(0, 0), 3);
    }

    private static void asItIsInEachHour() {
        AskedCocks cocks = Due.told(4, "r5 4;c2 1 1 2;p3 4;p0 3;");
        Due.is("hours(9)", cocks.hours(9), 9);
        Due.is("one who goes behind a roof", cocks.saw(0, 0), Due.bits(0, 1));
        Due.is("one on the other side", cocks.saw(0, 1), Due.bits(2, 3, 6, 7));
    }

    private static void building() {
        AskedCocks cocks = Due.told(3, "r7 2;c5 1 1 0;p9 3;");
        Due.is("builds(-1, 0)", cocks.builds(-1, 0), -1);
        Due.is("builds(24, 0)", cocks.builds(24, 0), -1);
        Due.is("builds(0, -1)", cocks.builds(0, -1), -1);
        Due.is("builds(0, 10)", cocks.builds(0, 10), -1);
        Due.is("as it is", cocks.builds(7, 2), -2);
        Due.is("hours(1)", cocks.hours(1), 1);
        Due.is("behind a roof", cocks.saw(0, 0), 0);
        Due.is("builds(7, 0)", cocks.builds(7, 0), 2);
        Due.is("builds(7, 0) again", cocks.builds(7, 0), -2);
        Due.is("refused ones can't be undone", cocks.count(5), 2);
        cocks.hours(1);
        Due.is("the roof is gone", cocks.saw(0, 0), 2);
        Due.is("builds(23, 9)", cocks.builds(23, 9), 0);
        Due.is("builds(0, 1)", cocks.builds(0, 1), 0);
    }

    private static void asking() {
        AskedCocks cocks = Due.told(4, "c0 1 1 0;c9 1 0 0;p4 3;p10 3;");
        cocks.hours(3);
        Due.is("asks(-1)", cocks.asks(-1), -1);
        Due.is("asks(2)", cocks.asks(2), -1);
        Due.is("asks(1)", cocks.asks(1), 3);
        Due.is("asks(1) again", cocks.asks(1), -2);
        Due.is("the hour stays", cocks.now(0), 3);
        cocks.hours(2);
        Due.is("saw no more", cocks.saw(1, 0), 7);
        Due.is("the other saw", cocks.saw(0, 0), 31);
        Due.is("asks(0): how much more", cocks.asks(0), 7);
        Due.is("now(1)", cocks.now(1), 3);
        Due.is("now(2)", cocks.now(2), 10);
    }

    private static void undoing() {
        AskedCocks cocks = Due.told(3, "r2 1;c0 3 1 0;p4 3;");
        Due.is("undo of none", cocks.undo(), -2);
        cocks.hours(2);
        cocks.builds(2, 9);
        cocks.hours(3);
        cocks.asks(0);
        cocks.faced(0, 1);
        cocks.met(2, 2);
        cocks.type(32);
        Due.is("count(5)", cocks.count(5), 4);
        Due.is("undo asks", cocks.undo(), 3);
        Due.is("not asked", cocks.cock(0, 6), 0);
        Due.is("not known", cocks.known(0), 0);
        Due.is("hour", cocks.now(0), 5);
        Due.is("undo hours", cocks.undo(), 2);
        Due.is("hour", cocks.now(0), 2);
        Due.is("roof", cocks.roof(2), 9);
        Due.is("undo builds", cocks.undo(), 1);
        Due.is("roof", cocks.roof(2), 1);
        Due.is("saw", cocks.saw(0, 0), 3);
        cocks.hours(1);
        Due.is("saw by the roof as it was", cocks.saw(0, 0), 7);
        Due.is("undo", cocks.undo(), 1);
        Due.is("undo the first", cocks.undo(), 0);
        Due.is("saw", cocks.saw(0, 0), 0);
        Due.is("undo of none", cocks.undo(), -2);
        Due.is("faced stays", cocks.count(3), 1);
        Due.is("met stays", cocks.count(4), 1);
        Due.is("the text stays", cocks.count(6), 1);
    }

    private static void undoingTen() {
        AskedCocks cocks = Due.told(1, "c0 1 1 0;");
        cocks.hours(1);
        cocks.asks(0);
        for (int x = 0; x < 9; x++) cocks.builds(x, x + 1);
        Due.is("ten are known", cocks.count(5), 10);
        cocks.hours(2);
        Due.is("ten are known", cocks.count(5), 10);
        Due.is("undo", cocks.undo(), 9);
        Due.is("hour", cocks.now(0), 1);
        for (int x = 8; x >= 0; x--) {
            Due.is("roof " + x, cocks.roof(x), x + 1);
            Due.is("undo builds of " + x, cocks.undo(), x);
            Due.is("roof " + x, cocks.roof(x), 0);
        }
        Due.is("older ones are lost", cocks.undo(), -2);
        Due.is("still asked", cocks.cock(0, 6), 1);
        Due.is("hour", cocks.now(0), 1);
    }

    private static void undoingMixedTen() {
        AskedCocks cocks = Due.told(7, "c0 5 1 0;c1 5 1 0;c2 5 1 0;r5 3;r6 4;r7 5;p23 3;");
        cocks.hours(3);
        cocks.asks(0);
        cocks.builds(5, 1);
        cocks.hours(2);
        cocks.builds(6, 2);
        cocks.asks(1);
        cocks.hours(4);
        cocks.builds(7, 3);
        cocks.asks(2);
        cocks.builds(5, 9);
        cocks.hours(1);
        cocks.builds(6, 8);
        Due.is("ten are known", cocks.count(5), 10);
        undone(cocks, 9, 10, 7, 9, 2, 3);
        undone(cocks, 8, 9, 7, 9, 2, 3);
        undone(cocks, 7, 9, 7, 1, 2, 3);
        undone(cocks, 6, 9, 3, 1, 2, 3);
        undone(cocks, 5, 9, 3, 1, 2, 5);
        undone(cocks, 4, 5, 3, 1, 2, 5);
        undone(cocks, 3, 5, 1, 1, 2, 5);
        undone(cocks, 2, 5, 1, 1, 4, 5);
        undone(cocks, 1, 3, 1, 1, 4, 5);
        undone(cocks, 0, 3, 1, 3, 4, 5);
        Due.is("undo", cocks.undo(), -2);
    }

    /** One more is undone: how many are left, the hour, who was asked, the roofs of 5, 6, 7. */
    private static void undone(AskedCocks cocks, int left, int hour, int asked, int roof5, int roof6, int roof7) {
        Due.is("undo", cocks.undo(), left);
        Due.is("hour with " + left + " left", cocks.now(0), hour);
        Due.is("asked with " + left + " left", cocks.now(1), asked);
        Due.is("roof 5 with " + left + " left", cocks.roof(5), roof5);
        Due.is("roof 6 with " + left + " left", cocks.roof(6), roof6);
        Due.is("roof 7 with " + left + " left", cocks.roof(7), roof7);
    }

    private static void nowAndCover() {
        // cocks 0 and 1 see the same; 2 sees what both see and what neither sees
        AskedCocks cocks = Due.told(5, "c5 1 1 0;c5 2 1 0;c4 1 1 0;p5 3;p7 3;");
        cocks.hours(4);
        Due.is("now(0)", cocks.now(0), 4);
        Due.is("now(1)", cocks.now(1), 0);
        Due.is("now(2)", cocks.now(2), 0);
        Due.is("now(3)", cocks.now(3), 8);
        Due.is("cover", cocks.now(4), 4);
        cocks.asks(2);
        Due.is("now(2)", cocks.now(2), 8);
        Due.is("cover of all known", cocks.now(4), 0);
        Due.is("now(-1)", cocks.now(-1), -1);
        Due.is("now(5)", cocks.now(5), -1);
        cocks = Due.told(3, "c5 1 1 0;c5 2 1 0;p7 3;");
        cocks.hours(4);
        Due.is("of several the least", cocks.now(4), 1);
        // 0 sees the one, 1 the other, 2 both
        cocks = Due.told(5, "c12 1 0 0;c12 1 1 0;c0 1 1 0;p4 3;p20 3;");
        cocks.hours(2);
        Due.is("fewest ahead of least bits", cocks.now(4), Due.bits(2));
        cocks.asks(0);
        Due.is("what is known need not be told", cocks.now(4), Due.bits(1));
        cocks = Due.told(7, "c10 1 1 0;c12 1 0 0;c13 1 0 0;c9 1 1 0;p8 3;p12 3;p20 3;");
        cocks.hours(2);
        Due.is("now(3)", cocks.now(3), 6);
        Due.is("cover of two", cocks.now(4), Due.bits(0, 1));
        cocks.asks(3);
        Due.is("what is known is left out", cocks.now(4), Due.bits(1));
    }
}

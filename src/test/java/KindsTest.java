/** Promises 26 to 30: mark, keep, back, count, trace. */
final class KindsTest {
    public static void main(String[] args) {
        marks();
        badMarks();
        images();
        imagesKeepUndos();
        imagesKeepWhichUndos();
        imagesKeepNothingElse();
        counts();
        Due.end("KindsTest");
    }

    private static void marks() {
        // number 1, cell 7, eye 4 + 2, telling 3, hour 3
        AskedCocks cocks = Due.told(4, "r7 4;c0 1 0 0;c7 2 1 0;p9 3;");
        cocks.hours(3);
        Due.is("COCK", cocks.mark(0, 1), 6);
        Due.is("trace", cocks.trace(), 1);
        Due.is("GOLD", cocks.mark(1, 1), 9);
        Due.is("trace", cocks.trace(), 12);
        Due.is("IRON", cocks.mark(2, 1), -1);
        Due.is("trace", cocks.trace(), 113);
        Due.is("DEAN", cocks.mark(3, 1), 18);
        Due.is("trace", cocks.trace(), 1124);
        Due.is("BARN", cocks.mark(4, 1), 0);
        Due.is("trace", cocks.trace(), 11225);
        Due.is("ZINC", cocks.mark(5, 1), 9);
        Due.is("trace", cocks.trace(), 111226);
        cocks.builds(7, 0);
        cocks.asks(1);
        Due.is("by the roof now, of one asked", cocks.mark(3, 1), 10);
        Due.is("trace", cocks.trace(), 112237);
        Due.is("number 0", cocks.mark(4, 0), 1);
    }

    private static void badMarks() {
        AskedCocks cocks = Due.told(1, "c20 1 0 0;");
        Due.is("mark(-1, 0)", cocks.mark(-1, 0), -1000000);
        Due.is("mark(6, 0)", cocks.mark(6, 0), -1000000);
        Due.is("mark(0, -1)", cocks.mark(0, -1), -1000000);
        Due.is("mark(0, 1)", cocks.mark(0, 1), -1000000);
        Due.is("trace", cocks.trace(), 0);
        Due.is("below 0", cocks.mark(2, 0), -19);
    }

    private static void images() {
        AskedCocks cocks = Due.told(3, "r4 2;c0 1 1 0;p3 3;");
        Due.is("keep(-1)", cocks.keep(-1), -1);
        Due.is("keep(2)", cocks.keep(2), -1);
        Due.is("back(-1)", cocks.back(-1), -1);
        Due.is("back(2)", cocks.back(2), -1);
        Due.is("back of none", cocks.back(0), -2);
        cocks.hours(2);
        Due.is("keep(1)", cocks.keep(1), 2);
        Due.is("back(0) of none", cocks.back(0), -2);
        cocks.builds(4, 9);
        cocks.hours(3);
        cocks.asks(0);
        Due.is("keep(0)", cocks.keep(0), 5);
        Due.is("back(1)", cocks.back(1), 2);
        Due.is("hour", cocks.now(0), 2);
        Due.is("roof", cocks.roof(4), 2);
        Due.is("saw", cocks.saw(0, 0), 3);
        Due.is("asked", cocks.now(1), 0);
        cocks.hours(9);
        Due.is("back(0)", cocks.back(0), 5);
        Due.is("roof", cocks.roof(4), 9);
        Due.is("saw", cocks.saw(0, 0), 31);
        Due.is("asked", cocks.now(1), 1);
        cocks.builds(4, 1);
        Due.is("back(0) again", cocks.back(0), 5);
        Due.is("an image does not change", cocks.roof(4), 9);
        Due.is("keep(1) anew", cocks.keep(1), 5);
        Due.is("back(1)", cocks.back(1), 5);
    }

    private static void imagesKeepUndos() {
        AskedCocks cocks = Due.told(2, "c0 1 1 0;p3 3;");
        cocks.hours(2);
        cocks.builds(3, 5);
        cocks.keep(0);
        Due.is("undo", cocks.undo(), 1);
        Due.is("undo", cocks.undo(), 0);
        cocks.asks(0);
        Due.is("back(0)", cocks.back(0), 2);
        Due.is("count(5)", cocks.count(5), 2);
        Due.is("undo builds", cocks.undo(), 1);
        Due.is("roof", cocks.roof(3), 0);
        Due.is("undo hours", cocks.undo(), 0);
        Due.is("hour", cocks.now(0), 0);
        Due.is("saw", cocks.saw(0, 0), 0);
        Due.is("not asked", cocks.now(1), 0);
        Due.is("undo", cocks.undo(), -2);
    }

    private static void imagesKeepWhichUndos() {
        AskedCocks cocks = Due.told(3, "r3 4;c0 5 1 0;p2 3;");
        cocks.builds(3, 5);
        cocks.hours(2);
        cocks.builds(3, 6);
        cocks.asks(0);
        cocks.keep(0);
        while (cocks.count(5) > 0) cocks.undo();
        cocks.hours(1);
        cocks.asks(0);
        cocks.builds(9, 9);
        cocks.builds(9, 8);
        cocks.builds(9, 7);
        Due.is("back(0)", cocks.back(0), 2);
        Due.is("roof 9", cocks.roof(9), 0);
        Due.is("undo asks", cocks.undo(), 3);
        Due.is("asked", cocks.now(1), 0);
        Due.is("undo builds", cocks.undo(), 2);
        Due.is("roof 3", cocks.roof(3), 5);
        Due.is("undo hours", cocks.undo(), 1);
        Due.is("hour", cocks.now(0), 0);
        Due.is("undo builds", cocks.undo(), 0);
        Due.is("roof 3", cocks.roof(3), 4);
    }

    private static void imagesKeepNothingElse() {
        AskedCocks cocks = Due.told(1, "c0 1 1 0;");
        cocks.keep(0);
        cocks.faced(1, 1);
        cocks.met(1, 1);
        cocks.mark(0, 0);
        cocks.type(65);
        cocks.back(0);
        Due.is("faced", cocks.count(3), 1);
        Due.is("met", cocks.count(4), 1);
        Due.is("trace", cocks.trace(), 1);
        Due.is("text", cocks.count(6), 1);
    }

    private static void counts() {
        AskedCocks cocks = Due.told(6, "c0 1 1 0;p1 1;p1 1;s1 1 1;s1 1 1;s1 1 1;");
        cocks.faced(1, 1);
        cocks.faced(1, 1);
        cocks.met(1, 1);
        cocks.hours(1);
        cocks.hours(1);
        cocks.builds(1, 1);
        cocks.type(0);
        int[] due = {1, 2, 3, 2, 1, 3, 1};
        for (int what = 0; what < due.length; what++) Due.is("count(" + what + ")", cocks.count(what), due[what]);
        Due.is("count(-1)", cocks.count(-1), -1);
        Due.is("count(7)", cocks.count(7), -1);
    }
}

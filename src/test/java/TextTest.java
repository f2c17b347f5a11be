/** Promises 1 to 4: a new object, type, clear, diocese. */
final class TextTest {
    public static void main(String[] args) {
        constants();
        newObject();
        typing();
        clearing();
        reading();
        tokens();
        faults();
        ranges();
        tooMany();
        faultChangesNothing();
        wholeRoom();
        behindTheText();
        readAnew();
        Due.end("TextTest");
    }

    private static void constants() {
        Due.is("BAD", AskedCocks.BAD, -1);
        Due.is("STATE", AskedCocks.STATE, -2);
        Due.is("FULL", AskedCocks.FULL, -3);
        Due.is("NONE", AskedCocks.NONE, -9);
        Due.is("NO", AskedCocks.NO, -1000000);
    }

    private static void newObject() {
        AskedCocks cocks = new AskedCocks();
        for (int what = 0; what <= 6; what++) Due.is("new count " + what, cocks.count(what), 0);
        for (int what = 0; what <= 4; what++) Due.is("new now " + what, cocks.now(what), 0);
        for (int x = 0; x < 24; x++) Due.is("new roof " + x, cocks.roof(x), 0);
        Due.is("new blind", cocks.blind(29), 0xFFFFFF);
        Due.is("new trace", cocks.trace(), 0);
        Due.is("new undo", cocks.undo(), -2);
        Due.is("new back", cocks.back(0), -2);
        Due.is("new cock", cocks.cock(0, 0), -1);
        Due.is("new one", cocks.one(0, 0), -1000000);
    }

    private static void typing() {
        AskedCocks cocks = new AskedCocks();
        Due.is("type(-1)", cocks.type(-1), -1);
        Due.is("type(256)", cocks.type(256), -1);
        Due.is("type(least)", cocks.type(Integer.MIN_VALUE), -1);
        Due.is("type(0)", cocks.type(0), 1);
        Due.is("type(255)", cocks.type(255), 2);
        for (int n = 3; n <= 150; n++) Due.is("type " + n, cocks.type(32), n);
        Due.is("type 151", cocks.type(32), -3);
        Due.is("type 151, again", cocks.type(32), -3);
        Due.is("BAD ahead of FULL", cocks.type(256), -1);
        Due.is("count(6)", cocks.count(6), 150);
    }

    private static void clearing() {
        AskedCocks cocks = new AskedCocks();
        Due.is("clear of none", cocks.clear(), 0);
        Due.typeAll(cocks, "r1");
        Due.is("clear", cocks.clear(), 2);
        Due.is("count(6)", cocks.count(6), 0);
        Due.is("clear again", cocks.clear(), 0);
        Due.retold(cocks, 1, "r 3 4;");
        Due.is("read without what was cleared", cocks.roof(3), 4);
    }

    private static void reading() {
        AskedCocks cocks = Due.told(0, "");
        cocks = Due.told(0, "   ");
        Due.is("count(6) behind diocese", cocks.count(6), 0);
        cocks = Due.told(6, "r5 9;c5 2 1 3;p 7 2;s4 0 29;r5 8;c 23 5 0 0;");
        Due.is("the later roof", cocks.roof(5), 8);
        Due.is("cocks", cocks.count(0), 2);
        Due.is("people", cocks.count(1), 1);
        Due.is("smoke", cocks.count(2), 1);
        Due.is("cock 1 cell", cocks.cock(1, 0), 23);
        Due.is("one 0 speed", cocks.one(0, 1), -1);
        Due.is("text is empty", cocks.clear(), 0);
        Due.told(30, "r0 1;r0 2;r0 3;r0 4;r0 5;r0 6;r0 7;r0 8;r0 9;r0 0;r1 1;r1 2;r1 3;r1 4;r1 5;"
            + "r2 1;r2 2;r2 3;r2 4;r2 5;r3 1;r3 2;r3 3;r3 4;r3 5;r4 1;r4 2;r4 3;r4 4;r4 5;");
    }

    private static void tokens() {
        AskedCocks cocks = Due.told(2, "  r   1  2  ;  r12 3;  ");
        Due.is("roof 1", cocks.roof(1), 2);
        Due.is("roof 12", cocks.roof(12), 3);
        fault("rr 1 2;", 0);
        fault("rc 1 2;", 0);
        fault("ra1 2;", 0);
        fault("rz1 2;", 0);
        fault("r ab 2;", 2);
        // 99 is what the letter c is as a byte
        fault("99 0 1 0 0;", 0);
        fault("r1c2;", 2);
        fault("r1,2;", 2);
        fault("r\t1 2;", 1);
        fault("R1 2;", 0);
        fault("`1 2;", 0);
        fault("{1 2;", 0);
        fault("r1/2;", 2);
        fault("r1:2;", 2);
        fault("r1 -2;", 3);
        fault("r1 2<", 4);
        fault((char) 0 + "r1 2;", 0);
        fault((char) 255 + "r1 2;", 0);
        fault("r1 2;" + (char) 160, 5);
    }

    private static void faults() {
        fault("r", 1);
        fault("r ", 2);
        fault("r1", 2);
        fault("r1 2", 4);
        fault("r1 2  ", 6);
        fault("  ;", 2);
        fault("r1 2;;", 5);
        fault("r;", 1);
        fault("r1;", 2);
        fault("r1 2 3;", 5);
        fault("5", 0);
        fault("x1 2;", 0);
        fault("q", 0);
        fault("r1 2;z 1;", 5);
        fault("r1 2 r3 4;", 5);
        fault("r 00 2;", 2);
        fault("r 01 2;", 2);
        fault("r 000001 2;", 2);
        fault("r 1 02;", 4);
        fault("r 100 2;", 2);
        fault("r 99 2;", 2);
        fault("r 4294967296 2;", 2);
        fault("r 4294967297 2;", 2);
        fault("r1 18446744073709551617;", 3);
        fault("100", 0);
        fault("r1 2;007", 5);
        fault("c1 1 1", 6);
        fault("c1 1 1;", 6);
        fault("p1 1 1;", 5);
        fault("s1 1;", 4);
    }

    private static void ranges() {
        Due.told(1, "r0 0;");
        Due.told(1, "r23 9;");
        fault("r24 0;", 1);
        fault("r23 10;", 4);
        Due.told(1, "c0 1 0 0;");
        Due.told(1, "c23 5 1 9;");
        fault("c24 1 0 0;", 1);
        fault("c0 0 0 0;", 3);
        fault("c0 6 0 0;", 3);
        fault("c0 1 2 0;", 5);
        fault("c0 1 0 10;", 7);
        Due.told(1, "p0 0;");
        Due.told(1, "p23 6;");
        fault("p24 0;", 1);
        fault("p0 7;", 3);
        Due.told(1, "s0 0 0;");
        Due.told(1, "s23 29 29;");
        Due.told(1, "s0 0 29;");
        fault("s24 0 0;", 1);
        fault("s0 30 30;", 3);
        fault("s0 0 30;", 5);
        fault("s0 5 4;", 5);
        fault("s0 29 0;", 6);
    }

    private static void tooMany() {
        String fiveCocks = "c0 1 0 0;c0 1 0 0;c0 1 0 0;c0 1 0 0;c0 1 0 0;";
        Due.told(5, fiveCocks);
        fault(fiveCocks + " c", 46);
        fault(fiveCocks + "c99 1 0 0;", 45);
        String fourPeople = "p0 0;p0 0;p0 0;p0 0;";
        Due.told(4, fourPeople);
        fault(fourPeople + "p0 0;", 20);
        String fourSmokes = "s0 0 0;s0 0 0;s0 0 0;s0 0 0;";
        Due.told(4, fourSmokes);
        fault(fourSmokes + "s0 0 0;", 28);
        Due.told(13, fiveCocks + fourPeople + fourSmokes);
    }

    private static void faultChangesNothing() {
        AskedCocks cocks = Due.told(3, "r3 4;c1 1 1 0;p2 3;");
        cocks.hours(2);
        cocks.faced(0, 0);
        cocks.met(1, 1);
        cocks.keep(1);
        Due.typeAll(cocks, "r3 9;c2 2 0 0;x");
        Due.is("diocese()", cocks.diocese(), -24);
        Due.is("text stays", cocks.count(6), 15);
        Due.is("diocese() again", cocks.diocese(), -24);
        Due.is("roof stays", cocks.roof(3), 4);
        Due.is("cocks stay", cocks.count(0), 1);
        Due.is("cock stays", cocks.cock(0, 0), 1);
        Due.is("hour stays", cocks.now(0), 2);
        Due.is("saw stays", cocks.saw(0, 0), 3);
        Due.is("faced stays", cocks.count(3), 1);
        Due.is("met stays", cocks.count(4), 1);
        Due.is("undo stays", cocks.count(5), 1);
        Due.is("image stays", cocks.back(1), 2);
        Due.is("clear", cocks.clear(), 15);
    }

    private static void wholeRoom() {
        fault("r".repeat(150), 0);
        fault("r" + "1".repeat(149), 1);
        fault("r1 2;" + " ".repeat(144) + "c", 150);
        fault("r1 2;" + " ".repeat(142) + "c12", 150);
        fault("r1 2;" + " ".repeat(144) + ";", 149);
        Due.told(1, " ".repeat(145) + "r1 2;");
        Due.told(1, "r1 2;" + " ".repeat(145));
    }

    private static void behindTheText() {
        AskedCocks cocks = new AskedCocks();
        Due.typeAll(cocks, "r12 345;");
        cocks.clear();
        Due.typeAll(cocks, "r12 3");
        Due.is("what was cleared is no digit of it", cocks.diocese(), -15);
        cocks.clear();
        Due.typeAll(cocks, "rr12");
        cocks.clear();
        Due.typeAll(cocks, "r");
        Due.is("what was cleared is no letter of it", cocks.diocese(), -11);
    }

    private static void readAnew() {
        AskedCocks cocks = Due.told(5, "r3 4;r4 5;c1 1 1 2;p2 3;s9 9 9;");
        cocks.mark(1, 0);
        cocks.hours(2);
        cocks.builds(7, 7);
        cocks.asks(0);
        cocks.faced(0, 0);
        cocks.met(1, 1);
        cocks.keep(0);
        cocks.keep(1);
        Due.retold(cocks, 3, "r4 6;c2 2 0 0;p2 3;");
        Due.is("roof not told", cocks.roof(3), 0);
        Due.is("roof told", cocks.roof(4), 6);
        Due.is("roof built", cocks.roof(7), 0);
        Due.is("cock cell", cocks.cock(0, 0), 2);
        Due.is("cock turn", cocks.cock(0, 3), 0);
        Due.is("cock asked", cocks.cock(0, 6), 0);
        Due.is("saw", cocks.saw(0, 0), 0);
        Due.is("known", cocks.known(0), 0);
        Due.is("hour", cocks.now(0), 0);
        Due.is("smoke", cocks.count(2), 0);
        Due.is("faced", cocks.count(3), 0);
        Due.is("met", cocks.count(4), 0);
        Due.is("undos", cocks.count(5), 0);
        Due.is("undo", cocks.undo(), -2);
        Due.is("image 0", cocks.back(0), -2);
        Due.is("image 1", cocks.back(1), -2);
        Due.is("the trace stays", cocks.trace(), 11);
        Due.is("empty text", cocks.diocese(), 0);
        Due.is("no cocks", cocks.count(0), 0);
        Due.is("nobody", cocks.count(1), 0);
        Due.is("roof 4", cocks.roof(4), 0);
        Due.is("the trace stays", cocks.trace(), 11);
    }

    private static void fault(String text, int place) {
        AskedCocks cocks = new AskedCocks();
        Due.typeAll(cocks, text);
        Due.is("diocese() of \"" + text + "\"", cocks.diocese(), -10 - place);
        Due.is("text stays", cocks.count(6), text.length());
    }
}

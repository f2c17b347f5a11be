/** States that refused calls are tried in: nothing there yet, some of each, everything full. */
enum State {
    NOTHING, HALF, FULL;

    /** A new object in this state, after fewer than 300 calls. */
    AskedCocks made() {
        AskedCocks cocks = new AskedCocks();
        if (this == HALF) fillHalf(cocks);
        if (this == FULL) fill(cocks);
        return cocks;
    }

    /** 3 COCKS, 2 of PEOPLE, a SMOKE; HOUR 5, one ASKED, 4 deeds, IMAGE 1; 2 FACED, 2 MET; 9 bytes. */
    private static void fillHalf(AskedCocks cocks) {
        type(cocks, "r5 3;c2 1 1 2;c20 2 0 0;c9 5 1 3;p4 4;p15 3;s6 2 3;");
        cocks.diocese();
        cocks.hours(3);
        cocks.builds(10, 4);
        cocks.asks(1);
        cocks.keep(1);
        cocks.hours(2);
        cocks.mark(3, 0);
        cocks.mark(5, 2);
        cocks.faced(0, 1);
        cocks.faced(4, 0);
        cocks.met(7, 2);
        cocks.met(9, 4);
        type(cocks, "r7 2;c4 1");
    }

    /** As much of each as there may be: all COCKS ASKED, HOUR 30, both IMAGES, 10 deeds known of 13. */
    private static void fill(AskedCocks cocks) {
        type(cocks, "c0 1 1 0;c23 2 0 1;c11 5 1 2;c12 3 0 9;c6 4 1 4;p1 3;p22 3;p9 4;p16 2;"
            + "s1 0 9;s22 3 3;s9 0 0;s16 0 29;r23 9;r0 1;");
        cocks.diocese();
        cocks.hours(2);
        cocks.builds(5, 9);
        cocks.asks(0);
        cocks.hours(9);
        cocks.builds(5, 0);
        cocks.asks(1);
        cocks.keep(0);
        cocks.hours(9);
        cocks.asks(2);
        cocks.builds(7, 3);
        cocks.hours(9);
        cocks.asks(3);
        cocks.hours(9);
        cocks.asks(4);
        cocks.keep(1);
        for (int kind = 0; kind <= 5; kind++) cocks.mark(kind, 4);
        int[] facedHours = {0, 3, 4, 7, 8, 29};
        for (int hour : facedHours) cocks.faced(hour, hour / 4 % 2 == 0 ? 1 : 0);
        for (int hour = 0; hour < 4; hour++) cocks.met(5 + 2 * hour, hour);
        cocks.met(0, 29);
        cocks.met(23, 0);
        for (int i = 0; i < 30; i++) type(cocks, "r" + i % 10 + " " + i % 7 + ";");
    }

    static void type(AskedCocks cocks, String text) {
        for (int i = 0; i < text.length(); i++) cocks.type(text.charAt(i));
    }
}

/** Promises 26 to 30 at their edges: a test for each sentence that names one. */
final class KindsEdgesTest {
    private static final String[] KINDS = {"COCK", "GOLD", "IRON", "DEAN", "BARN", "ZINC"};
    private static final int[] TRACES = {1, 11, 101, 1011, 10101, 100001};

    public static void main(String[] args) {
        markRefused();
        marks();
        keep();
        back();
        backToAll();
        backWithUndos();
        count();
        trace();
        Due.end("KindsEdgesTest");
    }

    // ---- promise 26

    private static void markRefused() {
        Edges.of("Promise 26, mark: kind", 0, 5, State.FULL, -1000000, (cocks, kind) -> cocks.mark(kind, 0));
        for (int kind = 0; kind <= 5; kind++) {
            int of = kind;
            Edges.ofThose("Promise 26, mark: as " + KINDS[kind] + ", c", 3, 5, -1000000, (cocks, c) -> cocks.mark(of, c));
        }
        Due.holds("Promise 26, mark: both numbers BAD", () -> Unchanged.everywhere(cocks -> cocks.mark(6, 5), -1000000));
    }

    private static void marksAre(String sentence, AskedCocks cocks, int c, int... due) {
        for (int kind = 0; kind < 6; kind++) {
            int of = kind;
            Due.holds("Promise 26, mark: as " + KINDS[kind] + ": " + sentence, () -> {
                long trace = cocks.trace();
                Due.is("mark(" + of + ", " + c + ")", cocks.mark(of, c), due[of]);
                Due.is("trace()", cocks.trace(), trace + TRACES[of]);
            });
        }
    }

    private static void marks() {
        AskedCocks low = Due.told(1, "c23 1 0 0;");
        marksAre("the lowest EYE, none SEEN, the highest CELL", low, 0, 1, 1, -22, 2, -22, 1);
        AskedCocks high = Due.told(11, "c0 1 1 0;c0 1 1 0;c0 1 1 0;c0 1 1 0;c0 5 1 0;r0 9;p5 3;p6 3;p7 3;p8 3;s9 0 0;");
        for (int n = 0; n < 4; n++) high.hours(9);
        marksAre("the highest EYE, all SEEN, the lowest CELL, the fifth, HOUR 30", high, 4, 14, 134, 14, 268, 18, 44);
        AskedCocks asked = Due.told(3, "c0 1 1 0;c4 2 1 0;p5 3;");
        asked.hours(3);
        asked.asks(1);
        asked.hours(1);
        asked.builds(4, 7);
        marksAre("one ASKED, by its ROOF as it is NOW", asked, 1, 9, 12, 5, 24, 6, 13);
        AskedCocks below = Due.told(2, "c0 1 0 0;c2 1 0 0;");
        marksAre("of 1 less 2: -1 is no refusal", below, 1, 1, 1, -1, 2, 0, 1);
        Due.holds("Promise 26, mark: nothing but THE TRACE is changed", () -> {
            for (int kind = 0; kind < 6; kind++) {
                AskedCocks cocks = State.FULL.made();
                cocks.mark(kind, 4);
                int[] due = {5, 4, 4, 6, 6, 10, 150};
                for (int what = 0; what < due.length; what++) Due.is("count(" + what + ")", cocks.count(what), due[what]);
                for (int what = 0; what < 5; what++) Due.is("now(" + what + ")", cocks.now(what), State.FULL.made().now(what));
                Due.is("undo()", cocks.undo(), 9);
            }
        });
    }

    // ---- promise 27

    private static void keep() {
        Edges.of("Promise 27, keep: image", 0, 1, State.NOTHING, -1, (cocks, image) -> cocks.keep(image));
        for (int image = 0; image < 2; image++) {
            int of = image;
            Due.holds("Promise 27, keep: IMAGE " + image + ": the HOUR, 0, where nothing is yet",
                () -> Due.is("keep", new AskedCocks().keep(of), 0));
            Due.holds("Promise 27, keep: IMAGE " + image + ": the HOUR, 30, the last",
                () -> Due.is("keep", State.FULL.made().keep(of), 30));
            Due.holds("Promise 27, keep: IMAGE " + image + " kept again: the later alone", () -> {
                AskedCocks cocks = State.HALF.made();
                cocks.keep(of);
                cocks.hours(3);
                Due.is("keep", cocks.keep(of), 8);
                cocks.hours(1);
                Due.is("back", cocks.back(of), 8);
                Due.is("now(0)", cocks.now(0), 8);
            });
            Due.holds("Promise 27, keep: IMAGE " + image + ": the other one stays", () -> {
                AskedCocks cocks = State.FULL.made();
                cocks.undo();
                cocks.undo();
                cocks.keep(of);
                Due.is("back", cocks.back(1 - of), of == 0 ? 30 : 11);
                Due.is("now(1)", cocks.now(1), of == 0 ? 31 : 3);
            });
            Due.holds("Promise 27, keep: IMAGE " + image + ": nothing else is changed", () -> {
                for (State state : State.values()) {
                    Unchanged.like(() -> kept(state, of), () -> {
                        AskedCocks cocks = kept(state, of);
                        Due.is("keep", cocks.keep(of), cocks.now(0));
                        return cocks;
                    });
                }
            });
        }
    }

    private static AskedCocks kept(State state, int image) {
        AskedCocks cocks = state.made();
        cocks.keep(image);
        return cocks;
    }

    // ---- promise 28

    private static void back() {
        Edges.of("Promise 28, back: image", 0, 1, State.FULL, -1, (cocks, image) -> cocks.back(image));
        Due.holds("Promise 28, back: STATE: IMAGE 0, none was kept, and nothing changes",
            () -> Unchanged.in(State.NOTHING, cocks -> cocks.back(0), -2));
        Due.holds("Promise 28, back: STATE: IMAGE 1, none was kept, and nothing changes",
            () -> Unchanged.in(State.NOTHING, cocks -> cocks.back(1), -2));
        Due.holds("Promise 28, back: STATE: IMAGE 0, where 1 alone was kept, and nothing changes",
            () -> Unchanged.in(State.HALF, cocks -> cocks.back(0), -2));
        Due.holds("Promise 28, back: STATE: IMAGE 1, where 0 alone was kept, and nothing changes",
            () -> Unchanged.of(() -> kept(State.NOTHING, 0), cocks -> cocks.back(1), -2));
        Due.holds("Promise 28, back: BAD ahead of STATE: IMAGE 2, where none was kept",
            () -> Unchanged.in(State.NOTHING, cocks -> cocks.back(2), -1));
        Due.holds("Promise 28, back: BAD ahead of STATE: IMAGE -1, where none was kept",
            () -> Unchanged.in(State.NOTHING, cocks -> cocks.back(-1), -1));
        Due.holds("Promise 28, back: STATE behind a text read anew, and nothing changes", () -> {
            for (int image = 0; image < 2; image++) {
                int of = image;
                Unchanged.of(() -> {
                    AskedCocks cocks = State.FULL.made();
                    cocks.diocese();
                    return cocks;
                }, cocks -> cocks.back(of), -2);
            }
        });
        Due.holds("Promise 28, back: not STATE behind a text with a FAULT", () -> {
            AskedCocks cocks = State.HALF.made();
            Due.is("diocese()", cocks.diocese(), -19);
            Due.is("back(1)", cocks.back(1), 3);
        });
        Due.holds("Promise 28, back: again and again", () -> {
            AskedCocks cocks = State.FULL.made();
            for (int n = 0; n < 3; n++) {
                Due.is("back(0)", cocks.back(0), 11);
                Due.is("back(0)", cocks.back(0), 11);
                Due.is("back(1)", cocks.back(1), 30);
            }
        });
    }

    private static void backToAll() {
        Due.holds("Promise 28, back: to an object as it was when all was new", () -> Unchanged.like(
            () -> kept(State.NOTHING, 0), () -> {
                AskedCocks cocks = kept(State.NOTHING, 0);
                cocks.hours(9);
                for (int x = 0; x < 12; x++) cocks.builds(x, 9);
                Due.is("back(0)", cocks.back(0), 0);
                return cocks;
            }));
        Due.holds("Promise 28, back: all of that becomes as it was kept, whatever was done since", () -> Unchanged.like(
            () -> kept(State.HALF, 0), () -> {
                AskedCocks cocks = kept(State.HALF, 0);
                cocks.asks(0);
                cocks.asks(2);
                for (int x = 0; x < 12; x++) cocks.builds(x, 9);
                for (int n = 0; n < 4; n++) cocks.hours(9);
                Due.is("back(0)", cocks.back(0), 5);
                return cocks;
            }));
        Due.holds("Promise 28, back: and whatever was UNDONE since", () -> Unchanged.like(
            () -> kept(State.HALF, 0), () -> {
                AskedCocks cocks = kept(State.HALF, 0);
                for (int left = 3; left >= 0; left--) Due.is("undo()", cocks.undo(), left);
                Due.is("back(0)", cocks.back(0), 5);
                return cocks;
            }));
        Due.holds("Promise 28, back: what is done behind it does not change the IMAGE", () -> {
            AskedCocks cocks = State.FULL.made();
            cocks.back(0);
            cocks.hours(9);
            cocks.builds(5, 7);
            cocks.asks(4);
            Due.is("back(0)", cocks.back(0), 11);
            Due.is("roof(5)", cocks.roof(5), 0);
            Due.is("now(1)", cocks.now(1), 3);
            Due.is("count(5)", cocks.count(5), 6);
            Due.is("no HOUR from 11 on", cocks.saw(2, 2) >> 11, 0);
        });
        Due.holds("Promise 28, back: nothing else: FACED, MET, THE TEXT, THE TRACE stay", () -> {
            AskedCocks cocks = State.HALF.made();
            cocks.faced(9, 1);
            cocks.met(9, 9);
            cocks.type(';');
            cocks.mark(5, 0);
            long trace = cocks.trace();
            cocks.back(1);
            int[] due = {3, 2, 1, 3, 3, 3, 10};
            for (int what = 0; what < due.length; what++) Due.is("count(" + what + ")", cocks.count(what), due[what]);
            Due.is("trace()", cocks.trace(), trace);
        });
    }

    private static void backWithUndos() {
        Due.holds("Promise 28, back: what may be UNDONE: none, as when it was kept", () -> {
            AskedCocks cocks = kept(State.NOTHING, 1);
            cocks.hours(1);
            Due.is("back(1)", cocks.back(1), 0);
            Due.is("count(5)", cocks.count(5), 0);
            Due.is("undo()", cocks.undo(), -2);
        });
        Due.holds("Promise 28, back: what may be UNDONE: all 10, though all were UNDONE since", () -> {
            AskedCocks cocks = State.FULL.made();
            for (int n = 0; n < 10; n++) cocks.undo();
            Due.is("count(5)", cocks.count(5), 0);
            Due.is("back(1)", cocks.back(1), 30);
            Due.is("count(5)", cocks.count(5), 10);
            int[] asked = {15, 15, 7, 7, 7, 3, 3, 1, 1, 1};
            int[] hour = {30, 29, 29, 20, 20, 20, 11, 11, 11, 2};
            for (int n = 0; n < 10; n++) {
                Due.is("undo()", cocks.undo(), 9 - n);
                Due.is("now(1)", cocks.now(1), asked[n]);
                Due.is("now(0)", cocks.now(0), hour[n]);
            }
            Due.is("undo()", cocks.undo(), -2);
        });
        Due.holds("Promise 28, back: what may be UNDONE: each ROOF as it was till then, though others were BUILT since", () -> {
            AskedCocks cocks = new AskedCocks();
            for (int height = 1; height <= 9; height++) cocks.builds(23, height);
            cocks.keep(0);
            for (int n = 0; n < 9; n++) cocks.undo();
            for (int x = 0; x < 11; x++) cocks.builds(x, 9);
            Due.is("back(0)", cocks.back(0), 0);
            Due.is("roof(23)", cocks.roof(23), 9);
            for (int height = 8; height >= 0; height--) {
                Due.is("undo()", cocks.undo(), height);
                Due.is("roof(23)", cocks.roof(23), height);
            }
        });
        Due.holds("Promise 28, back: it is itself nothing to be UNDONE", () -> {
            AskedCocks cocks = State.HALF.made();
            cocks.back(1);
            Due.is("count(5)", cocks.count(5), 3);
            Due.is("undo()", cocks.undo(), 2);
            Due.is("now(1)", cocks.now(1), 0);
            Due.is("now(0)", cocks.now(0), 3);
        });
    }

    // ---- promise 29

    private static void count() {
        Edges.of("Promise 29, count: what", 0, 6, State.FULL, -1, (cocks, what) -> cocks.count(what));
        int[] half = {3, 2, 1, 2, 2, 4, 9};
        int[] full = {5, 4, 4, 6, 6, 10, 150};
        for (int what = 0; what <= 6; what++) {
            int of = what;
            Due.holds("Promise 29, count: " + what + ", nothing yet", () -> Due.is("count", new AskedCocks().count(of), 0));
            Due.holds("Promise 29, count: " + what + ", some", () -> Due.is("count", State.HALF.made().count(of), half[of]));
            Due.holds("Promise 29, count: " + what + ", full", () -> Due.is("count", State.FULL.made().count(of), full[of]));
            Due.holds("Promise 29, count: " + what + ": nothing is changed",
                () -> Unchanged.byAsking(cocks -> cocks.count(of)));
        }
    }

    // ---- promise 30

    private static void trace() {
        Due.holds("Promise 30, trace: 0 at first", () -> Due.is("trace()", new AskedCocks().trace(), 0));
        Due.holds("Promise 30, trace: nothing is changed", () -> Unchanged.byAsking(AskedCocks::trace));
        Due.holds("Promise 30, trace: 0 still, where mark was refused alone", () -> {
            AskedCocks cocks = Due.told(1, "c0 1 1 0;");
            for (int kind = -1; kind <= 6; kind++) Due.is("mark(" + kind + ", 1)", cocks.mark(kind, 1), -1000000);
            Due.is("mark(6, 0)", cocks.mark(6, 0), -1000000);
            Due.is("mark(-1, 0)", cocks.mark(-1, 0), -1000000);
            Due.is("trace()", cocks.trace(), 0);
        });
        Due.holds("Promise 30, trace: of all calls ever, together", () -> {
            AskedCocks cocks = Due.told(1, "c0 1 1 0;");
            for (int n = 0; n < 12; n++) {
                for (int kind = 0; kind < 6; kind++) cocks.mark(kind, 0);
            }
            Due.is("trace()", cocks.trace(), 12 * 111226L);
        });
        Due.holds("Promise 30, trace: by mark alone, no other call", () -> {
            AskedCocks cocks = Due.told(2, "c0 1 1 0;p5 3;");
            cocks.hours(2);
            cocks.cock(0, 4);
            cocks.cock(0, 7);
            cocks.now(4);
            cocks.most(60, 0);
            Due.is("trace()", cocks.trace(), 0);
        });
        Due.holds("Promise 30, trace: stays, though all is UNDONE, brought back, forgotten, told anew", () -> {
            AskedCocks cocks = State.FULL.made();
            Due.is("trace()", cocks.trace(), 111226);
            cocks.undo();
            cocks.back(0);
            cocks.forget();
            cocks.diocese();
            Due.is("count(0)", cocks.count(0), 0);
            Due.is("trace()", cocks.trace(), 111226);
        });
    }
}

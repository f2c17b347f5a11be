import java.util.Random;

/** All promises at once: long runs of calls, drawn by fixed seeds, against the model. */
final class ModelTest {
    private static final int RUNS = 400;
    private static final int CALLS = 512;
    /** A TEXT, typed behind so many calls, and what follows stay under CALLS. */
    private static final int LAST_TEXT = 300;

    private final Random random;
    private final AskedCocks cocks = new AskedCocks();
    private final Model model = new Model();
    private int calls = 0;

    private ModelTest(int seed) {
        random = new Random(seed);
    }

    public static void main(String[] args) {
        for (int seed = 1; seed <= RUNS; seed++) new ModelTest(seed).run(seed);
        Due.end("ModelTest");
    }

    private void run(int seed) {
        // a mark takes two calls
        while (calls < CALLS - 1) {
            if (calls == 0 || calls < LAST_TEXT && random.nextInt(60) == 0) typeText();
            else anyCall(random.nextInt(100));
        }
    }

    private void compare(String call, long got, long due) {
        calls++;
        Due.is(call, got, due);
    }

    private void typeText() {
        StringBuilder text = new StringBuilder();
        int items = random.nextInt(16);
        for (int i = 0; i < items; i++) item(text);
        while (random.nextInt(3) == 0) spoil(text);
        for (int i = 0; i < text.length(); i++) {
            int c = text.charAt(i);
            compare("type(" + c + ")", cocks.type(c), model.type(c));
        }
        compare("diocese() of " + text, cocks.diocese(), model.diocese());
        if (random.nextInt(8) > 0) compare("clear()", cocks.clear(), model.clear());
    }

    private void item(StringBuilder text) {
        switch (random.nextInt(6)) {
            case 0: case 1: numbers(text, 'r', random.nextInt(24), random.nextInt(10)); break;
            case 2: case 3: numbers(text, 'c', random.nextInt(24), 1 + random.nextInt(5), random.nextInt(2), random.nextInt(10)); break;
            case 4: numbers(text, 'p', random.nextInt(24), random.nextInt(3) > 0 ? 2 + random.nextInt(3) : random.nextInt(7)); break;
            default:
                int from = random.nextInt(30);
                numbers(text, 's', random.nextInt(24), from, from + random.nextInt(30 - from));
        }
    }

    private void numbers(StringBuilder text, char letter, int... numbers) {
        text.append(letter);
        for (int i = 0; i < numbers.length; i++) {
            if (i > 0 || random.nextInt(9) == 0) text.append(' ');
            text.append(numbers[i]);
        }
        if (random.nextInt(9) == 0) text.append("  ");
        text.append(';');
    }

    private void spoil(StringBuilder text) {
        int place = random.nextInt(text.length() + 1);
        String[] bytes = {"0", "1", "9", " ", ";", "r", "c", "p", "s", "x", "A", "\u0000", "\u00ff", "/", ":", "`", "{"};
        String spoiled = bytes[random.nextInt(bytes.length)];
        switch (random.nextInt(3)) {
            case 0: text.insert(place, spoiled); break;
            case 1: text.replace(place, place + 1, spoiled); break;
            default: text.delete(place, place + 1);
        }
    }

    /** From 0 to what may be, now and then a little beyond. */
    private int upTo(int highest) {
        return random.nextInt(25) == 0 ? beyond(highest) : random.nextInt(highest + 1);
    }

    private int beyond(int highest) {
        int[] all = {-1, highest + 1, highest + 2, Integer.MIN_VALUE, Integer.MAX_VALUE, -2};
        return all[random.nextInt(all.length)];
    }

    private int aCock() {
        return upTo(Math.max(model.count(0) - 1, 0));
    }

    private int aPerson() {
        return upTo(Math.max(model.count(1) - 1, 0));
    }

    private void anyCall(int kind) {
        if (kind < 25) deed(kind);
        else if (kind < 55) look(kind);
        else if (kind < 80) clue(kind);
        else other(kind);
    }

    private void deed(int kind) {
        if (kind < 10) {
            int n = random.nextInt(6) == 0 ? upTo(10) : 1 + random.nextInt(3);
            compare("hours(" + n + ")", cocks.hours(n), model.hours(n));
        } else if (kind < 16) {
            int x = upTo(23);
            int height = upTo(9);
            compare("builds(" + x + ", " + height + ")", cocks.builds(x, height), model.builds(x, height));
        } else if (kind < 18) {
            int c = aCock();
            compare("asks(" + c + ")", cocks.asks(c), model.asks(c));
        } else if (kind < 20) {
            int image = upTo(1);
            compare("keep(" + image + ")", cocks.keep(image), model.keep(image));
        } else if (kind < 22) {
            int image = upTo(1);
            compare("back(" + image + ")", cocks.back(image), model.back(image));
        } else {
            compare("undo()", cocks.undo(), model.undo());
        }
    }

    private void look(int kind) {
        int c = aCock();
        int hour = upTo(29);
        if (kind < 31) {
            compare("view(" + c + ", " + hour + ")", cocks.view(c, hour), model.view(c, hour));
        } else if (kind < 35) {
            compare("blind(" + hour + ")", cocks.blind(hour), model.blind(hour));
        } else if (kind < 43) {
            int n = random.nextInt(2) == 0 ? upTo(60) : random.nextInt(9);
            int what = upTo(1);
            compare("most(" + n + ", " + what + ")", cocks.most(n, what), model.most(n, what));
        } else if (kind < 48) {
            int x = upTo(23);
            int to = random.nextInt(3) == 0 ? upTo(29) : Math.min(29, hour + random.nextInt(10));
            int chance = upTo(10);
            int what = upTo(1);
            compare("odds(" + c + ", " + x + ", " + hour + ", " + to + ", " + chance + ", " + what + ")",
                cocks.odds(c, x, hour, to, chance, what), model.odds(c, x, hour, to, chance, what));
        } else {
            int what = upTo(4);
            compare("now(" + what + ")", cocks.now(what), model.now(what));
        }
    }

    private void clue(int kind) {
        int what = upTo(1);
        if (kind < 60) {
            int hour = upTo(29);
            compare("faced(" + hour + ", " + what + ")", cocks.faced(hour, what), model.faced(hour, what));
        } else if (kind < 64) {
            compare("laws(" + what + ")", cocks.laws(what), model.laws(what));
        } else if (kind < 66) {
            compare("tryNext()", cocks.tryNext(), model.tryNext());
        } else if (kind < 70) {
            int x = upTo(23);
            int hour = random.nextInt(3) == 0 ? upTo(29) : random.nextInt(6);
            compare("met(" + x + ", " + hour + ")", cocks.met(x, hour), model.met(x, hour));
        } else if (kind < 74) {
            compare("ways(" + what + ")", cocks.ways(what), model.ways(what));
        } else if (kind < 78) {
            compare("falses(" + what + ")", cocks.falses(what), model.falses(what));
        } else {
            compare("forget()", cocks.forget(), model.forget());
        }
    }

    private void other(int kind) {
        int c = aCock();
        int p = aPerson();
        int what = upTo(7);
        if (kind < 82) {
            int x = upTo(23);
            compare("roof(" + x + ")", cocks.roof(x), model.roof(x));
        } else if (kind < 85) {
            compare("cock(" + c + ", " + what + ")", cocks.cock(c, what), model.cock(c, what));
        } else if (kind < 88) {
            int of = upTo(2);
            compare("one(" + p + ", " + of + ")", cocks.one(p, of), model.one(p, of));
        } else if (kind < 91) {
            compare("saw(" + c + ", " + p + ")", cocks.saw(c, p), model.saw(c, p));
        } else if (kind < 93) {
            compare("known(" + p + ")", cocks.known(p), model.known(p));
        } else if (kind < 96) {
            int sort = upTo(5);
            compare("mark(" + sort + ", " + c + ")", cocks.mark(sort, c), model.mark(sort, c));
            compare("trace()", cocks.trace(), model.trace());
        } else if (kind < 98) {
            compare("count(" + what + ")", cocks.count(what), model.count(what));
        } else {
            int of = upTo(255);
            compare("type(" + of + ")", cocks.type(of), model.type(of));
        }
    }
}

/** What the tests share: answers compared with those that are due, and objects that were told a text. */
final class Due {
    private static int right = 0;
    private static int wrong = 0;
    private static int sentences = 0;
    /** The sentence that is being tested, ahead of what is printed of its wrong answers. */
    private static String sentence = "";

    private Due() {
    }

    /** A test of its own for a sentence of the document, named by its promise and the case. */
    static void holds(String named, Runnable test) {
        int before = right + wrong;
        sentence = named + ": ";
        sentences++;
        test.run();
        isTrue("its test compares answers", right + wrong > before);
        sentence = "";
    }

    static void is(String call, long got, long due) {
        if (got == due) {
            right++;
            return;
        }
        wrong++;
        System.out.println("WRONG: " + sentence + call + " answered " + got + ", due is " + due);
    }

    static void isTrue(String what, boolean holds) {
        is(what, holds ? 1 : 0, 1);
    }

    static void typeAll(AskedCocks cocks, String text) {
        for (int i = 0; i < text.length(); i++) {
            is("type of byte " + i + " of \"" + text + "\"", cocks.type(text.charAt(i)), i + 1);
        }
    }

    /** A new object by a text that holds so many ITEMS. */
    static AskedCocks told(int items, String text) {
        AskedCocks cocks = new AskedCocks();
        retold(cocks, items, text);
        return cocks;
    }

    static void retold(AskedCocks cocks, int items, String text) {
        typeAll(cocks, text);
        is("diocese() of \"" + text + "\"", cocks.diocese(), items);
    }

    static int bits(int... places) {
        int bits = 0;
        for (int place : places) bits |= 1 << place;
        return bits;
    }

    /** Ends the machine: with 1 if an answer was wrong, or if there was none. */
    static void end(String test) {
        String named = sentences > 0 ? sentences + " sentences, " : "";
        System.out.println(test + ": " + named + right + " answers right, " + wrong + " wrong");
        System.exit(wrong == 0 && right > 0 ? 0 : 1);
    }
}

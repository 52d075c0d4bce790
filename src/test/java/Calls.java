/** Calls that tests make over and over: texts instead of numbers, and a count of what was wrong. */
final class Calls {
    private static int wrong;
    private static int asked;
    private static long latest;

    private Calls() {
    }

    static void due(String call, long got, long want) {
        asked++;
        latest = got;
        if (got != want) {
            wrong++;
            System.out.println(call + " answered " + got + ", due is " + want);
        }
    }

    static void due(String call, String got, String want) {
        asked++;
        if (!got.equals(want)) {
            wrong++;
            System.out.println(call + " answered '" + got + "', due is '" + want + "'");
        }
    }

    static void due(String call, boolean got, boolean want) {
        due(call, got ? 1 : 0, want ? 1 : 0);
    }

    static void finish(String name) {
        System.out.println(name + ": " + asked + " answers, " + wrong + " wrong");
        System.exit(wrong == 0 && asked > 0 ? 0 : 1);
    }

    /** What the class answered to the latest call. */
    static long latest() {
        return latest;
    }

    static boolean allRight() {
        return wrong == 0;
    }

    /** Four bytes of a text (0 behind its end) as a number. */
    static int four(String text, int at) {
        int made = 0;
        for (int i = at; i < at + 4; i++) {
            made = made << 8 | (i < text.length() ? text.charAt(i) & 255 : 0);
        }
        return made;
    }

    /** The tape becomes a text of up to 600 bytes. */
    static void tape(PutBack x, String text) {
        x.end(0);
        for (int i = 0; i < text.length(); i += 20) {
            x.feed(four(text, i), four(text, i + 4), four(text, i + 8), four(text, i + 12), four(text, i + 16));
        }
        x.end(text.length());
    }

    static int define(PutBack x, String definition) {
        tape(x, definition);
        return x.lens();
    }

    static int say(PutBack x, int slot, String text) {
        tape(x, text);
        return x.text(slot);
    }

    static String read(PutBack x, int slot) {
        StringBuilder made = new StringBuilder();
        for (int i = 0; i < x.symbol(slot, PutBack.NONE); i++) {
            made.append((char) x.symbol(slot, i));
        }
        return made.toString();
    }
}

import java.util.function.IntSupplier;

/** Calls that tests make over and over: texts instead of numbers, and a count of what was wrong. */
final class Calls {
    /** What of an object's state a call may change though it is refused. */
    static final int NOTHING = 0;
    static final int TAPE = 1;
    static final int FAULT = 2;
    static final int REFUSED = 4;

    private static int wrong;
    private static int asked;
    private static long latest;

    private Calls() {
    }

    static void due(String call, long got, long want) {
        asked++;
        latest = got;
        if (got != want) {
            wrong++;
            System.out.println(call + " answered " + got + ", due is " + want);
        }
    }

    static void due(String call, String got, String want) {
        asked++;
        if (!got.equals(want)) {
            wrong++;
            System.out.println(call + " answered '" + got + "', due is '" + want + "'");
        }
    }

    static void due(String call, boolean got, boolean want) {
        due(call, got ? 1 : 0, want ? 1 : 0);
    }

    static void finish(String name) {
        System.out.println(name + ": " + asked + " answers, " + wrong + " wrong");
        System.exit(wrong == 0 && asked > 0 ? 0 : 1);
    }

    /** What the class answered to the latest call. */
    static long latest() {
        return latest;
    }

    static boolean allRight() {
        return wrong == 0;
    }

    /** Four bytes of a text (0 behind its end) as a number. */
    static int four(String text, int at) {
        int made = 0;
        for (int i = at; i < at + 4; i++) {
            made = made << 8 | (i < text.length() ? text.charAt(i) & 255 : 0);
        }
        return made;
    }

    /** The tape becomes a text of up to 600 bytes. */
    static void tape(PutBack x, String text) {
        x.end(0);
        for (int i = 0; i < text.length(); i += 20) {
            x.feed(four(text, i), four(text, i + 4), four(text, i + 8), four(text, i + 12), four(text, i + 16));
        }
        x.end(text.length());
    }

    static int define(PutBack x, String definition) {
        tape(x, definition);
        return x.lens();
    }

    /** A new object with some lenses, all of them good ones. */
    static PutBack with(String... definitions) {
        PutBack x = new PutBack();
        for (int i = 0; i < definitions.length; i++) {
            due("define " + definitions[i], define(x, definitions[i]), i);
        }
        return x;
    }

    /** All that can be seen of an object, but for slot 7, by which what is open is looked at. */
    private static String state(PutBack x, int changes) {
        StringBuilder made = new StringBuilder();
        for (int what = 0; what < 5; what++) {
            boolean counts = what == 1 && (changes & TAPE) != 0 || what == 4 && (changes & REFUSED) != 0;
            made.append(counts ? "?" : String.valueOf(x.look(what))).append(' ');
        }
        for (int what = 0; what < 3; what++) {
            made.append((changes & FAULT) != 0 ? "?" : String.valueOf(x.fault(what))).append(' ').append(x.moved(what)).append(' ');
        }
        for (int slot = 0; slot < 7; slot++) {
            made.append('"').append(read(x, slot)).append('"');
        }
        for (int side = 0; side < 2; side++) {
            made.append(x.copy(side, 7)).append(x.look(2) == PutBack.NONE ? "" : read(x, 7)).append(' ');
        }
        for (int lens = 0; lens < x.look(0); lens++) {
            made.append(x.set(lens, 0, 0)).append('/').append(x.set(lens, 1, 0)).append(' ');
        }
        return made.toString();
    }

    /** A call is refused, and all stays but what it may change all the same. */
    static void stays(PutBack x, String call, int changes, IntSupplier answer) {
        String before = state(x, changes);
        due(call, answer.getAsInt(), PutBack.NONE);
        due(call + " all stays", state(x, changes), before);
    }

    static void stays(PutBack x, String call, IntSupplier answer) {
        stays(x, call, NOTHING, answer);
    }

    static int say(PutBack x, int slot, String text) {
        tape(x, text);
        return x.text(slot);
    }

    static String read(PutBack x, int slot) {
        StringBuilder made = new StringBuilder();
        for (int i = 0; i < x.symbol(slot, PutBack.NONE); i++) {
            made.append((char) x.symbol(slot, i));
        }
        return made.toString();
    }
}

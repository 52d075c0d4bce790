import java.util.ArrayList;
import java.util.List;

/**
 * All definitions of a few tokens: the class and the slow model must refuse them with the same fault, or show, put back
 * and make anew the same of their least texts. What can't stand there is not gone on with.
 */
public final class SmallestTest {
    private static final int TOKENS = 5;
    private static final int LEAST = 5;

    private static final String[] WITHOUT = {};
    private static final String[] NAMED = {"n=key[a].del[bc]\"b\"", "m=n then copy[a]"};
    private static final String[] KEYED = {"n=key[a].del[bc]\"b\".copy\",\"", "m=dict n"};
    private static final String[] ROWS = {"copy[a]", "key[b]", "del[bc]\"c\"", "ins\"a\"", "ins\"\"", "*", ".", "|", "(", ")",
        "dict ", "swap(", ",", " then ", " n ", " m "};
    private static final String[] DICTS = {"copy[a]", "key[a]", "key[b]", "copy\",\"", "del[bc]\"c\"", "*", ".", "|", "(", ")",
        "dict ", "swap(", ",", " then ", " n ", " m "};
    private static final String[] UNITS = {"copy", "key", "del", "[a]", "[b]", "[ab]", "\"a\"", "\"ab\"", "\"\"", "*", "+", "?",
        "(", ")", "|", " . "};
    private static final String[] BYTES = {"copy ", "[", "]", "a", "-", "\"", "b", "n", "*", "(", ")", ".", " ", "\n"};

    private static PutBack x;
    private static PutBackModel y;
    private static String[] ahead;
    private static String[] tokens;
    private static int most;

    private SmallestTest() {
    }

    public static void main(String[] args) {
        most = args.length > 1 ? Integer.parseInt(args[1]) : TOKENS;
        goThrough(NAMED, ROWS);
        goThrough(KEYED, DICTS);
        goThrough(WITHOUT, UNITS);
        goThrough(NAMED, BYTES);
        Calls.finish("SmallestTest");
    }

    private static void goThrough(String[] told, String[] of) {
        ahead = told;
        tokens = of;
        begin();
        longer("p=", 0, false);
    }

    private static void begin() {
        x = new PutBack();
        y = new PutBackModel();
        for (String each : ahead) {
            tape(each);
            Calls.due(each, x.lens(), y.lens());
        }
    }

    private static void tape(String text) {
        Calls.tape(x, text);
        y.end(0);
        for (int i = 0; i < text.length(); i += 20) {
            y.feed(Calls.four(text, i), Calls.four(text, i + 4), Calls.four(text, i + 8), Calls.four(text, i + 12),
                Calls.four(text, i + 16));
        }
        y.end(text.length());
    }

    /** Behind what is asked of several parts a sign may still change what the last of them is; no other token does. */
    private static void longer(String begun, int many, boolean signs) {
        for (int i = 0; i < tokens.length && many < most && Calls.allRight(); i++) {
            boolean isSign = tokens[i].length() == 1 && "*+?".contains(tokens[i]);
            if (signs && !isSign) {
                continue;
            }
            String definition = begun + tokens[i];
            int fault = tell(definition);
            boolean goesOn = fault == 0 || (fault == 1 && x.fault(1) == definition.length());
            if (goesOn || (fault > 2 && !signs)) {
                longer(definition, many + 1, !goesOn);
            }
        }
    }

    private static int tell(String definition) {
        tape(definition);
        Calls.due(definition, x.lens(), y.lens());
        int number = (int) Calls.latest();
        for (int what = 0; what < 3; what++) {
            Calls.due(definition + " fault " + what, x.fault(what), y.fault(what));
        }
        int fault = x.fault(0);
        if (number != PutBack.NONE && Calls.allRight()) {
            trySets(definition + " ", number);
            tryTexts(definition + " ", number, least(definition, number, 0), least(definition, number, 1));
            begin();
        }
        return fault;
    }

    private static void trySets(String call, int lens) {
        for (int side = 0; side < 2; side++) {
            for (int what = 0; what < 4; what++) {
                Calls.due(call + "set " + side + " " + what, x.set(lens, side, what), y.set(lens, side, what));
                Calls.due(call + "many " + side + " " + what, x.many(lens, side, what), y.many(lens, side, what));
            }
            for (int other = 0; other < 2 * lens; other++) {
                Calls.due(call + "compare " + side + " " + other, x.compare(lens, side, other / 2, other % 2),
                    y.compare(lens, side, other / 2, other % 2));
            }
        }
        for (int kind = 0; kind < 4; kind++) {
            Calls.due(call + "laws " + kind, x.laws(lens, kind, 3), y.laws(lens, kind, 3));
        }
    }

    private static List<String> least(String call, int lens, int side) {
        List<String> made = new ArrayList<>();
        int length = 0;
        for (int i = 0; i < LEAST && length != PutBack.NONE; i++) {
            length = into(call + " nth " + side + " " + i, x.nth(lens, side, i, 0), y.nth(lens, side, i, 0), 0);
            if (length != PutBack.NONE) {
                made.add(Calls.read(x, 0));
            }
        }
        return made;
    }

    /** A call whose outcome comes into a slot. */
    private static int into(String call, int got, int want, int slot) {
        Calls.due(call, got, want);
        StringBuilder due = new StringBuilder();
        for (int i = 0; i < y.symbol(slot, PutBack.NONE); i++) {
            due.append((char) y.symbol(slot, i));
        }
        Calls.due(call + " slot", Calls.read(x, slot), due.toString());
        return got;
    }

    private static void say(int slot, String text) {
        tape(text);
        Calls.due("text '" + text + "'", x.text(slot), y.text(slot));
    }

    private static void tryTexts(String call, int lens, List<String> sources, List<String> views) {
        for (String c : sources) {
            say(0, c);
            into(call + "get " + c, x.get(lens, 0, 1), y.get(lens, 0, 1), 1);
            for (String v : views) {
                say(2, v);
                String both = v + " into " + c;
                into(call + "put " + both, x.put(lens, 2, 0, 3), y.put(lens, 2, 0, 3), 3);
                for (int i = -1; i < 3; i++) {
                    Calls.due(call + "aligned " + i + " " + both, x.aligned(lens, 2, 0, i), y.aligned(lens, 2, 0, i));
                }
            }
        }
        for (String v : views) {
            say(2, v);
            into(call + "create " + v, x.create(lens, 2, 3), y.create(lens, 2, 3), 3);
            Calls.due(call + "parts " + v, x.parts(lens, 2), y.parts(lens, 2));
            Calls.due(call + "goesOn " + v, x.goesOn(lens, 1, 2, PutBack.NONE), y.goesOn(lens, 1, 2, PutBack.NONE));
            for (int i = -1; i < 3; i++) {
                into(call + "key " + i + " " + v, x.key(lens, 2, i, 4), y.key(lens, 2, i, 4), 4);
            }
        }
    }
}

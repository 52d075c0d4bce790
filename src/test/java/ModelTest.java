import java.util.ArrayList;
import java.util.List;
import java.util.Map;
import java.util.TreeMap;

/** Random runs of calls: the class and the slow model must answer the same. */
public final class ModelTest {
    private static final int RUNS = 1500;
    private static final String[] LETTERS = {"[a-c]", "[a]", "[b-d]", "[x-z]", "[a-z]"};
    private static final String[] OTHERS = {"[0-9]", "[0-1]", "[,-/]", "[:;]", "[ ]", "[ a]", "[5-9,]"};
    private static final String SEPARATORS = ",:;/- ";

    private static long state;
    private static PutBack x;
    private static PutBackModel y;
    private static final List<String> names = new ArrayList<>();
    /** In some runs all definitions are of lenses that name one another by "then". */
    private static Definitions towers;
    private static final Map<String, Integer> answered = new TreeMap<>();
    private static int told;
    private static int good;
    private static int[] faults = new int[14];

    private ModelTest() {
    }

    private static int pick(int n) {
        state = state * 6364136223846793005L + 1442695040888963407L;
        return (int) Math.floorMod(state >>> 33, (long) n);
    }

    private static String one(String... of) {
        return of[pick(of.length)];
    }

    public static void main(String[] args) {
        int runs = args.length > 1 ? Integer.parseInt(args[1]) : RUNS;
        long seed = args.length > 2 ? Long.parseLong(args[2]) : 0;
        for (int run = 0; run < runs && Calls.allRight(); run++) {
            state = seed * 1000003L + run * 7919L + 17;
            tryRun(run);
        }
        System.out.println("definitions: " + told + ", good: " + good + ", faults: " + java.util.Arrays.toString(faults));
        System.out.println("answered: " + answered);
        Calls.finish("ModelTest");
    }

    /** Half of all runs have lenses that are made for "then"; the others have any (null). */
    private static Definitions definitionsOf(int run) {
        switch (run % 8) {
            case 1:
                return new Shapes(ModelTest::pick);
            case 5:
                return new Swells(ModelTest::pick);
            case 3:
            case 7:
                return new Towers(ModelTest::pick);
            default:
                return null;
        }
    }

    private static void tryRun(int run) {
        x = new PutBack();
        y = new PutBackModel();
        names.clear();
        towers = definitionsOf(run);
        try {
            for (int i = 0; i < 3; i++) {
                tellLens(run);
            }
            for (int i = 0; i < 150 && Calls.allRight(); i++) {
                if (pick(12) == 0) {
                    tellLens(run);
                } else if (pick(5) == 0) {
                    tellText(run);
                } else {
                    call("run " + run + " ");
                }
            }
        } catch (RuntimeException e) {
            e.printStackTrace(System.out);
            Calls.due("run " + run + " throws", true, false);
        }
    }

    private static void tape(String text) {
        Calls.tape(x, text);
        y.end(0);
        for (int i = 0; i < text.length(); i += 20) {
            y.feed(Calls.four(text, i), Calls.four(text, i + 4), Calls.four(text, i + 8), Calls.four(text, i + 12),
                Calls.four(text, i + 16));
        }
        y.end(text.length());
        Calls.due("look(1)", x.look(1), y.look(1));
    }

    private static void tellLens(int run) {
        String name = ownName();
        String definition = (pick(50) == 0 ? "" : name) + one(" = ", "=", "=", " =\n")
            + (towers != null ? towers.definition() : definition());
        if (definition.length() > 600) {
            return;
        }
        if (pick(towers != null ? 60 : 6) == 0) {
            definition = spoiled(definition);
        }
        tape(definition);
        if (pick(15) == 0) {
            int n = pick(definition.length() + 1);
            x.end(n);
            y.end(n);
            definition = definition.substring(0, n);
        }
        String call = "run " + run + " lens '" + definition + "' ";
        Calls.due(call, x.lens(), y.lens());
        for (int what = -1; what < 4; what++) {
            Calls.due(call + "fault " + what, x.fault(what), y.fault(what));
        }
        told++;
        faults[x.fault(0)]++;
        if (x.fault(0) == 0) {
            good++;
            names.add(name);
            if (towers != null) {
                towers.told(name);
            }
            int n = x.look(0) - 1;
            for (int k = 0; k < 10; k++) {
                Calls.due(call + "set " + k, x.set(n, k / 5, k % 5), y.set(n, k / 5, k % 5));
            }
        }
    }

    /** The name of a lens that is told, most of the time. */
    private static String name() {
        if (pick(40) == 0 || names.isEmpty()) {
            return one("a", "b", "abcdefgh", "abcdefghi", "copyx", "then", "swap", "zz");
        }
        return names.get(pick(names.size()));
    }

    /** A name that isn't told, most of the time. */
    private static String ownName() {
        return pick(30) == 0 ? name() : one("a", "bc", "def", "ghij", "lens", "row") + (char) ('a' + pick(26));
    }

    private static String spoiled(String text) {
        StringBuilder made = new StringBuilder(text);
        for (int k = pick(2); k >= 0; k--) {
            int at = pick(made.length() + 1);
            String some = one("(", ")", "[", "]", "\"", "*", "+", "?", "|", ".", ",", "-", "a", "then", " ", "\n", "!",
                "\u00e9", "\u0000", "dict ", "0", "=");
            if (pick(2) == 0 && at < made.length()) {
                made.deleteCharAt(at);
            }
            if (pick(2) == 0) {
                made.insert(at, some);
            }
        }
        return made.toString();
    }

    private static String definition() {
        int kind = pick(14);
        if (kind > 11) {
            return one("dict ", "dict ", "") + "(" + record() + ")" + one("*", "", "");
        }
        if (pick(12) == 0) {
            return one("dict ", "dict ", "") + name() + one("", "*", " . copy \"/\"");
        }
        if (pick(20) == 0) {
            return "(" + record() + ") then copy [a-z]+ . " + one("copy", "key") + " [0-9]+ . copy \"" + separator() + "\"";
        }
        if (kind == 0) {
            String u = unit(2);
            return "copy " + u + " then copy " + u + (pick(2) == 0 ? " then " + lens(2) : "");
        }
        if (kind == 1) {
            return name() + " then " + name();
        }
        if (kind == 2) {
            return one("dict ", "") + "(" + "key " + one(LETTERS) + "+ . " + lens(2) + " . copy \"" + separator() + "\")"
                + one("*", "");
        }
        if (kind == 3) {
            return one("dict ", "") + "(" + record() + ")" + one("*", "", "");
        }
        if (kind == 4) {
            return name() + one(" . ", " | ", " . copy \"" + separator() + "\" . ") + name();
        }
        if (kind == 5) {
            return "dict " + name() + " then dict (swap(key [a-z]+, copy [0-9]+) . copy \"/\")";
        }
        if (kind == 6) {
            return "(" + record() + ")* then " + "(" + record() + ")*";
        }
        return lens(3);
    }

    private static String separator() {
        int at = pick(SEPARATORS.length());
        return SEPARATORS.substring(at, at + 1);
    }

    private static String record() {
        String mark = separator();
        return one("key [a-z]+", "key [a-c]*", "copy [x-z]+", "key \"\"", "swap(key [a-c]+, key [0-9]+)") + " . "
            + one("del [0-9]* \"7\"", "copy [0-9]+", "(copy [0-9]+ | del \"-\" \"-\" . ins \"-\")", "ins \"5\"",
                "(del \"5\" \"5\" . copy [0-9]* | del \"6\" \"6\" . copy [0-9]*)",
                "dict (key \":\" . copy [0-9])", "(key \":\" . del [0-9] \"4\")*",
                "(ins \"0\" | copy [1-3] | del [7-9] \"8\" . ins \"0\")") + " . "
            + one("copy \"" + mark + "\"", "del \"" + mark + "\" \"" + mark + "\" . ins \"" + separator() + "\"");
    }

    private static String lens(int depth) {
        int kind = depth <= 0 ? pick(4) : pick(11);
        switch (kind) {
            case 0:
                return one("copy ", "key ") + unit(1);
            case 1:
                return deletion();
            case 2:
                return one("copy ", "key ") + one(LETTERS) + one("", "*", "+", "?") ;
            case 3:
                return pick(2) == 0 ? "ins \"" + quoted() + "\"" : name();
            case 4:
                return "swap" + one("(", " ( ") + lens(depth - 1) + one(",", " , ") + lens(depth - 1) + ")";
            case 5:
                return "(" + lens(depth - 1) + ")" + one("*", "");
            case 6:
                return "dict " + (pick(2) == 0 ? "(" + lens(depth - 1) + ")" : lens(0));
            case 7:
            case 8:
                return lens(depth - 1) + one(" . ", ".", " . copy \"" + separator() + "\" . ") + lens(depth - 1);
            case 9:
                return lens(depth - 1) + one(" | ", "|") + lens(depth - 1);
            default:
                return "(" + lens(depth - 1) + " | " + deletion() + " . " + lens(depth - 1) + ")";
        }
    }

    private static String deletion() {
        return one("del [0-9]* \"7\"", "del \",\" \",\"", "del [a-c]+ \"ab\"", "del (\"a\"|\"b\"[x]*) \"bx\"",
            "del \"\" \"\"", "del [:;] \":\"", "del ([0-9]\"/\")* \"1/2/\"", "del [a] \"b\"", "del \"-\" \"-\"",
            "del [ ]? \" \"");
    }

    private static String quoted() {
        return one("", "", "a", ",", "x1", "bcd", "-", "0", "aaaaaaaaaaaaaaaaaaaa", "bbbbbbbbbbbbbbbbbbbbb", "a b", ":");
    }

    private static String unit(int depth) {
        String sign = one("", "", "*", "+", "?");
        switch (depth <= 0 ? pick(3) : pick(6)) {
            case 0:
                return "\"" + quoted() + "\"" + sign;
            case 1:
                return one(LETTERS) + sign;
            case 2:
                return one(OTHERS) + sign;
            case 3:
                return "(" + unit(depth - 1) + one("", " ") + unit(depth - 1) + ")" + sign;
            case 4:
                return "(" + unit(depth - 1) + one("|", " | ") + unit(depth - 1) + ")" + sign;
            default:
                return "(" + unit(depth - 1) + unit(depth - 1) + "|" + unit(depth - 1) + unit(0) + ")" + sign;
        }
    }

    private static void tellText(int run) {
        int slot = slot();
        String text;
        if (pick(3) == 0 && x.look(0) > 0) {
            text = walked(pick(x.look(0)), pick(2));
        } else {
            text = one("", "a", "ab,1", "c", "z", "ab:12c:3", "0z/5x/7w/", "A", "x,1;yy,22;", "a-", "b7", ":4:5", "\"");
        }
        if (pick(40) == 0) {
            text = text + "0123456789012345678901234567890123456789012345678901234567890".substring(pick(3));
        }
        tape(text);
        Calls.due("run " + run + " text '" + text + "'", x.text(slot), y.text(slot));
        sameSlot("run " + run + " text", slot);
    }

    /** A text of a set, found by going on with symbols that can stand there. */
    private static String walked(int lens, int side) {
        StringBuilder made = new StringBuilder();
        int most = 1 + pick(towers != null ? 60 : 30);
        int liked = pick(4);
        for (int i = 0; i < 59; i++) {
            tape(made.toString());
            x.text(7);
            y.text(7);
            if (i >= most && x.fits(lens, side, 7) == 1) {
                break;
            }
            int many = x.goesOn(lens, side, 7, PutBack.NONE);
            if (many <= 0) {
                break;
            }
            // The least symbols often end a part, the last ones make it longer.
            int at = liked > 1 || pick(12) == 0 ? pick(many) : liked == 0 ? 0 : many - 1;
            made.append((char) x.goesOn(lens, side, 7, at));
        }
        return made.toString();
    }

    private static int slot() {
        return pick(60) == 0 ? pick(20) - 6 : pick(8);
    }

    private static int lens() {
        return pick(60) == 0 ? pick(20) - 6 : pick(Math.max(1, x.look(0)));
    }

    private static int side() {
        return pick(60) == 0 ? pick(20) - 6 : pick(2);
    }

    private static int small(int n) {
        return pick(60) == 0 ? wild() : pick(25) == 0 ? pick(2000) - 1000 : pick(n) - (pick(10) == 0 ? 1 : 0);
    }

    private static int wild() {
        return new int[] {Integer.MAX_VALUE, Integer.MIN_VALUE, -1, 60, 600}[pick(5)];
    }

    private static void sameSlot(String call, int slot) {
        int many = x.symbol(slot, PutBack.NONE);
        Calls.due(call + " symbol(" + slot + ", NONE)", many, y.symbol(slot, PutBack.NONE));
        for (int i = 0; i < many; i++) {
            Calls.due(call + " symbol(" + slot + ", " + i + ")", x.symbol(slot, i), y.symbol(slot, i));
        }
    }

    /** Often a slot has a text of just the set that is asked about. */
    private static void prepare(int lens, int side, int slot) {
        if (pick(3) == 0 || lens < 0 || lens >= x.look(0) || slot < 0 || slot > 7) {
            return;
        }
        String text = walked(lens, side);
        tape(text);
        x.text(7);
        y.text(7);
        if (x.fits(lens, side, 7) == 1) {
            tape(text);
            x.text(slot);
            y.text(slot);
        }
    }

    private static void call(String run) {
        switch (pick(4)) {
            case 0:
                callLens(run);
                break;
            case 1:
                callSets(run);
                break;
            case 2:
                callParts(run);
                break;
            default:
                callOpen(run);
                break;
        }
    }

    /** How often a call had an answer other than NONE tells whether the runs reach what they should try. */
    private static void note(String name) {
        if (Calls.latest() != PutBack.NONE) {
            answered.merge(name, 1, Integer::sum);
        }
    }

    private static void callLens(String run) {
        int a = lens();
        int b = slot();
        int c = slot();
        int d = slot();
        int kind = pick(6);
        if (kind == 1 || kind == 2) {
            prepare(a, 0, c);
        }
        prepare(a, kind == 0 ? 0 : 1, b);
        String args = "(" + a + ", " + b + ", " + c + ", " + d + ")";
        switch (kind) {
            case 0:
                Calls.due(run + "get" + args, x.get(a, b, c), y.get(a, b, c));
                note("get");
                sameSlot(run + "get" + args, c);
                break;
            case 1:
            case 2:
                Calls.due(run + "put" + args, x.put(a, b, c, d), y.put(a, b, c, d));
                note("put");
                sameSlot(run + "put" + args, d);
                break;
            case 3:
                Calls.due(run + "create" + args, x.create(a, b, c), y.create(a, b, c));
                note("create");
                sameSlot(run + "create" + args, c);
                break;
            default: {
                int e = side();
                Calls.due(run + "fits" + args, x.fits(a, e, b), y.fits(a, e, b));
                note("fits");
                break;
            }
        }
    }

    private static void callSets(String run) {
        int a = lens();
        int b = side();
        int c = lens();
        int d = side();
        int s = slot();
        int i = small(6);
        switch (pick(7)) {
            case 0:
                i = small(21);
                Calls.due(run + "many " + a + " " + b + " " + i, x.many(a, b, i), y.many(a, b, i));
                note("many");
                break;
            case 1:
            case 2:
                i = pick(3) == 0 ? small(1001) : small(12);
                Calls.due(run + "nth " + a + " " + b + " " + i, x.nth(a, b, i, s), y.nth(a, b, i, s));
                note("nth");
                sameSlot(run + "nth", s);
                break;
            case 3:
                Calls.due(run + "compare " + a + " " + b + " " + c + " " + d, x.compare(a, b, c, d), y.compare(a, b, c, d));
                note("compare");
                break;
            case 4:
                Calls.due(run + "goesOn " + a + " " + b + " " + s + " " + i, x.goesOn(a, b, s, i), y.goesOn(a, b, s, i));
                note("goesOn");
                Calls.due(run + "goesOn " + a + " " + b + " " + s, x.goesOn(a, b, s, -1), y.goesOn(a, b, s, -1));
                note("goesOn");
                break;
            default:
                if (pick(4) == 0) {
                    int kind = small(4);
                    int n = 1 + small(5);
                    Calls.due(run + "laws " + a + " " + kind + " " + n, x.laws(a, kind, n), y.laws(a, kind, n));
                note("laws");
                }
                break;
        }
    }

    private static void callParts(String run) {
        int a = lens();
        int b = slot();
        int c = slot();
        int i = small(4);
        prepare(a, 0, c);
        prepare(a, 1, b);
        switch (pick(5)) {
            case 0:
                Calls.due(run + "parts " + a + " " + b, x.parts(a, b), y.parts(a, b));
                note("parts");
                break;
            case 1:
            case 2:
                Calls.due(run + "aligned " + a + " " + b + " " + c + " " + i, x.aligned(a, b, c, i), y.aligned(a, b, c, i));
                note("aligned");
                break;
            case 3:
                Calls.due(run + "key " + a + " " + b + " " + i + " " + c, x.key(a, b, i, c), y.key(a, b, i, c));
                note("key");
                sameSlot(run + "key", c);
                break;
            default:
                if (pick(2) == 0) {
                    Calls.due(run + "join " + a + " " + b + " " + c, x.join(a, b, c), y.join(a, b, c));
                note("join");
                } else {
                    int n = small(5);
                    Calls.due(run + "cut " + b + " " + i + " " + n, x.cut(b, i, n, c), y.cut(b, i, n, c));
                note("cut");
                }
                sameSlot(run + "join or cut", c);
                break;
        }
    }

    private static void callOpen(String run) {
        int a = lens();
        int s = slot();
        int i = small(8);
        int g = small(3);
        int side = side();
        switch (pick(6)) {
            case 0:
                if (pick(3) == 0) {
                    prepare(a, 0, s);
                    Calls.due(run + "open " + a + " " + s, x.open(a, s), y.open(a, s));
                note("open");
                }
                break;
            case 1:
            case 2:
            case 3:
                String call = run + "edit " + side + " " + i + " " + g + " " + s;
                if (pick(3) == 0) {
                    // An edit that becomes a text of the set as a whole.
                    x.copy(side, 6);
                    y.copy(side, 6);
                    i = 0;
                    g = x.symbol(6, PutBack.NONE);
                    prepare(x.look(2), side == 0 ? 0 : 1, s);
                }
                Calls.due(call, x.edit(side, i, g, s), y.edit(side, i, g, s));
                note("edit");
                break;
            case 4:
                if (pick(3) == 0) {
                    Calls.due(run + "undo", x.undo(), y.undo());
                note("undo");
                }
                break;
            default:
                Calls.due(run + "copy " + side + " " + s, x.copy(side, s), y.copy(side, s));
                note("copy");
                sameSlot(run + "copy", s);
                break;
        }
        for (int what = -1; what < 6; what++) {
            Calls.due(run + "look " + what, x.look(what), y.look(what));
                note("look");
            Calls.due(run + "moved " + what, x.moved(what), y.moved(what));
                note("moved");
        }
    }
}

/** Each promise of the document by itself: ordinary inputs, the edges that it names, and wrong inputs. */
public final class PromisesTest {
    private static final int NONE = PutBack.NONE;
    private static final int MAX = Integer.MAX_VALUE;
    private static final int MIN = Integer.MIN_VALUE;
    private static final String SIXTY = "abcdefghijabcdefghijabcdefghijabcdefghijabcdefghijabcdefghij";

    private PromisesTest() {
    }

    public static void main(String[] args) {
        newObject();
        feed();
        end();
        lens();
        text();
        symbol();
        fits();
        get();
        put();
        create();
        many();
        nth();
        compare();
        set();
        goesOn();
        parts();
        aligned();
        key();
        laws();
        open();
        edit();
        undo();
        copy();
        moved();
        join();
        cut();
        look();
        Calls.finish("PromisesTest");
    }

    private static PutBack with(String... definitions) {
        return Calls.with(definitions);
    }

    private static void newObject() {
        PutBack x = new PutBack();
        Calls.due("NONE", NONE, -1);
        Calls.due("1 look(0)", x.look(0), 0);
        Calls.due("1 look(1)", x.look(1), 0);
        Calls.due("1 look(2)", x.look(2), NONE);
        Calls.due("1 look(3)", x.look(3), 0);
        Calls.due("1 look(4)", x.look(4), 0);
        for (int i = 0; i < 3; i++) {
            Calls.due("1 fault", x.fault(i), i == 0 ? 0 : NONE);
        }
        for (int slot = 0; slot < 8; slot++) {
            Calls.due("1 symbol", x.symbol(slot, NONE), 0);
        }
        Calls.due("1 set", x.set(0, 0, 0), NONE);
        Calls.due("1 undo", x.undo(), false);
    }

    private static void feed() {
        PutBack x = new PutBack();
        for (int i = 1; i <= 30; i++) {
            Calls.due("2 feed", x.feed(0x61626364, 0x20306566, 0, -1, 0x7a7a7a7a), 20 * i);
        }
        Calls.due("2 feed beyond 600", x.feed(1, 2, 3, 4, 5), NONE);
        Calls.due("2 none came", x.look(1), 600);
        Calls.due("2 end", x.end(581), true);
        Calls.due("2 feed beyond 600", x.feed(1, 2, 3, 4, 5), NONE);
        Calls.due("2 end", x.end(580), true);
        Calls.due("2 feed up to 600", x.feed(1, 2, 3, 4, 5), 600);
        Calls.due("2 end", x.end(8), true);
        Calls.due("2 the highest byte first", x.text(0), 8);
        Calls.due("2 the highest byte first", Calls.read(x, 0), "abcd 0ef");
    }

    private static void end() {
        PutBack x = new PutBack();
        Calls.due("3 end(0)", x.end(0), true);
        Calls.due("3 end(1)", x.end(1), false);
        x.feed(0x61626364, 0, 0, 0, 0);
        Calls.due("3 end(21)", x.end(21), false);
        Calls.due("3 end(-1)", x.end(-1), false);
        Calls.due("3 end(MIN)", x.end(MIN), false);
        Calls.due("3 end(MAX)", x.end(MAX), false);
        Calls.due("3 all stays", x.look(1), 20);
        Calls.due("3 end(20)", x.end(20), true);
        Calls.due("3 end(3)", x.end(3), true);
        Calls.due("3 look(1)", x.look(1), 3);
        Calls.due("3 end(4)", x.end(4), false);
        Calls.due("3 text", x.text(0), 3);
    }

    /** Promises 4 and 5. */
    private static void lens() {
        PutBack x = with("a=copy[a]", "  b\n=\ncopy \"\" ");
        Calls.due("4 tape", x.look(1), 0);
        Calls.due("5 fault(3)", x.fault(3), NONE);
        Calls.due("5 fault(-1)", x.fault(-1), NONE);
        words();
        names();
        tooMany();
        positions();
        branchesAndRows();
        repetitions();
        units();
        order();
        x = with("a = copy [a]");
        Calls.define(x, "b = copy");
        Calls.due("5 tape is empty behind a fault", x.look(1), 0);
        Calls.due("5 latest", x.fault(0), 1);
        Calls.define(x, "b = copy [b]");
        Calls.due("5 latest", x.fault(0), 0);
        Calls.due("5 latest", x.fault(1), NONE);
        Calls.due("4 lenses", x.look(0), 2);
    }

    private static void refused(String definition, int fault, int place, int shown) {
        refused(with("la = copy [a]", "lb = dict (key [a-z] . del [0-9] \"0\")"), definition, fault, place, shown);
    }

    private static void refused(PutBack x, String definition, int fault, int place, int shown) {
        int lenses = x.look(0);
        String call = "5 '" + definition + "' ";
        Calls.due(call, Calls.define(x, definition), NONE);
        Calls.due(call + "fault", x.fault(0), fault);
        Calls.due(call + "place", x.fault(1), place);
        Calls.due(call + "shown by", x.fault(2), shown);
        Calls.due(call + "lenses", x.look(0), lenses);
    }

    private static void words() {
        refused("", 1, 0, NONE);
        refused("  \n", 1, 3, NONE);
        refused("= copy [a]", 1, 0, NONE);
        for (String own : new String[] {"then", "copy", "key", "del", "ins", "swap", "dict"}) {
            refused(own + " = copy [a]", 1, 0, NONE);
            refused("p = la . " + own, 1, own.equals("then") ? 9 : 9 + own.length(), NONE);
        }
        refused("A = copy [a]", 1, 0, NONE);
        refused("p1 = copy [a]", 1, 1, NONE);
        refused("p", 1, 1, NONE);
        refused("p copy", 1, 2, NONE);
        refused("p =", 1, 3, NONE);
        refused("p = copy [a] !", 1, 13, NONE);
        refused("p = copy [a] copy [b]", 1, 13, NONE);
        refused("p = copy [a]\t", 1, 12, NONE);
        refused("p = copy [a] then", 1, 17, NONE);
        refused("p = then", 1, 4, NONE);
        refused("p = (copy [a] then copy [a])", 1, 14, NONE);
        refused("p = copy [a] |", 1, 14, NONE);
        refused("p = copy [a] . ", 1, 15, NONE);
        refused("p = copy a", 1, 9, NONE);
        refused("p = del [a]", 1, 11, NONE);
        refused("p = del [a] [a]", 1, 12, NONE);
        refused("p = ins [a]", 1, 8, NONE);
        refused("p = ins", 1, 7, NONE);
        refused("p = ins \"", 1, 9, NONE);
        refused("p = ins \"!", 1, 9, NONE);
        refused("p = \"a!\"", 1, 4, NONE);
        refused("p = dict", 1, 8, NONE);
        refused("p = swap copy [a]", 1, 9, NONE);
        refused("p = swap(copy [a])", 1, 17, NONE);
        refused("p = swap(copy [a], copy [b]", 1, 27, NONE);
        refused("p = swap(copy [a], copy [a]!", 1, 27, NONE);
        refused("p = (copy [a]", 1, 13, NONE);
        refused("p = copy [a])", 1, 12, NONE);
        refused("p = copy [a]*+", 1, 13, NONE);
        refused("p = la**", 1, 7, NONE);
        refused("p = la+", 1, 6, NONE);
        refused("p = copy ()", 1, 10, NONE);
        refused("p = copy ([a]|)", 1, 14, NONE);
        refused("p = copy ([a]", 1, 13, NONE);
        refused("p = copy []", 1, 10, NONE);
        refused("p = copy [-]", 1, 10, NONE);
        refused("p = copy [a-]", 1, 12, NONE);
        refused("p = copy [a--]", 1, 12, NONE);
        refused("p = copy [a-c-e]", 1, 13, NONE);
        refused("p = copy [b-a]", 1, 12, NONE);
        refused("p = copy [A]", 1, 10, NONE);
        refused("p = copy [a", 1, 11, NONE);
        refused("p = copy [a-", 1, 12, NONE);
        refused("p = copy [a\n]", 1, 11, NONE);
        refused("p = copy \"a\n\"", 1, 11, NONE);
        refused("p = copy \"aA\"", 1, 11, NONE);
        refused("p = copy \"a", 1, 11, NONE);
        refused("p = copy \"a ", 1, 12, NONE);
        refused("p = copy \"" + SIXTY.substring(0, 21) + "\"", 1, 30, NONE);
        refused("p = copy \"" + SIXTY.substring(0, 20), 1, 30, NONE);
        refused("p = copy [a]\u00e9", 1, 12, NONE);
        refused("p = copy [a]\u0000", 1, 12, NONE);
        with("p = copy \"" + SIXTY.substring(0, 20) + "\"", "q = copy [,-/]", "r = copy [ ]", "s=swap(p,q)|r");
    }

    private static void names() {
        refused("la = copy [a]", 2, 0, NONE);
        refused(" la copy", 2, 1, NONE);
        refused("p = lc", 2, 4, NONE);
        refused("p = p", 2, 4, NONE);
        refused("p = la . copyx", 2, 9, NONE);
        refused("abcdefghi = copy [a]", 1, 0, NONE);
        refused("p = abcdefghi", 1, 4, NONE);
        refused("p = lalalala", 2, 4, NONE);
        with("abcdefgh = copy [a]", "a = abcdefgh", "b=dict(key\"a\")", "copyx = b", "keyy=ins\"\"");
    }

    private static void tooMany() {
        PutBack x = with("a = copy [a]", "b = a", "c = a", "d = a", "e = a", "f = a", "g = a", "h = a");
        refused(x, "i = copy [a]", 3, 0, NONE);
        refused(x, " i = copy", 3, 1, NONE);
        refused(x, "a = copy [a]", 2, 0, NONE);
        refused(x, "abcdefghi = copy [a]", 1, 0, NONE);
        with("p = ((((((((((((copy [a]))))))))))))", "q = (((((((((((copy ([a]))))))))))))");
        refused("p = (((((((((((((copy [a])))))))))))))", 3, 16, NONE);
        refused("p = ((((((((((((copy ([a])))))))))))))", 3, 21, NONE);
        refused("p = ((((((((((((swap(la, la)))))))))))))", 3, 20, NONE);
        refused("p = ((((((((((((swap la", 1, 21, NONE);
        with("p = " + "(ins \"\") . swap(ins \"\", copy (\"\"\"\")) . ".repeat(12) + "ins \"\"");
        refused("p = copy (((((((((((([a])))))))))))) (", 1, 37, NONE);
    }

    private static void positions() {
        String twenty = "\"" + SIXTY.substring(0, 20) + "\"";
        PutBack x = with("s = copy (" + twenty + twenty + twenty + ")", "t = ins \"\" . s . copy \"\"",
            "u = del " + twenty + twenty, "v = ins " + twenty + " . ins " + twenty + " . ins " + twenty + " . u");
        Calls.due("5 sixty", x.set(0, 0, 0), 60);
        Calls.due("5 sixty", x.set(1, 1, 0), 60);
        Calls.due("5 sixty and twenty", x.set(3, 1, 0), 60);
        Calls.due("5 sixty and twenty", x.set(3, 0, 0), 20);
        refused(x, "p = s . ins \"0\"", 3, 6, NONE);
        refused(x, "p = ins \"0\" . s", 3, 12, NONE);
        refused(x, "p = s . del \"0\" \"0\"", 3, 6, NONE);
        refused(x, "p = s . s", 3, 6, NONE);
        refused(x, "p = swap(s, copy \"0\")", 3, 4, NONE);
        refused(x, "p = s | copy \"0\"", 3, 6, NONE);
        refused(x, "p = s | s", 3, 6, NONE);
        refused(x, "p = ins \"0\" . v | s", 3, 12, NONE);
        refused(x, "p = copy (" + twenty + twenty + twenty + "[0])", 3, 76, NONE);
        refused(x, "p = copy (" + twenty + twenty + twenty + " ([0]))", 3, 77, NONE);
        refused(x, "p = copy (" + twenty + twenty + twenty + "|[0])", 3, 76, NONE);
        refused(x, "p = copy (" + twenty + twenty + twenty + "|[a])", 3, 76, NONE);
        with("p = copy (" + twenty + twenty + "\"" + SIXTY.substring(0, 19) + "\"|[0])");
        with("p = copy (" + twenty + twenty + "\"" + SIXTY.substring(0, 19) + "\") | copy [0]");
        // The views are the same: only one of the two stays.
        x = with("a = del \"0\" \"0\" . ins " + twenty + " . ins " + twenty,
            "b = a | del \"1\" \"1\" . ins " + twenty + " . ins " + twenty);
        Calls.due("5 the same views", x.set(1, 1, 0), 40);
        stale();
        refused(x, "p = a | del \"1\" \"1\" . ins \"0\" . ins " + twenty + " . ins " + twenty, 3, 6, NONE);
    }

    /** What stood on the tape behind its end is not read. */
    private static void stale() {
        String told = "p = copy ([a-c]\"de\"|\"f\") . del [x] \"x\"       . ins \"-\"";
        for (int n = 0; n <= told.length(); n++) {
            PutBack x = new PutBack();
            Calls.tape(x, told);
            x.end(n);
            boolean whole = n == told.length() || n >= 24 && n <= 25 || n >= 38 && n <= 45;
            Calls.due("5 " + n + " bytes", x.lens(), whole ? 0 : NONE);
            Calls.due("5 " + n + " bytes", x.fault(0) == 0, whole);
            Calls.due("5 " + n + " bytes, place", x.fault(1) <= n, true);
        }
        PutBack x = with("p = copy [a]" + " ".repeat(588));
        refused(x, "q = copy [a" + " ".repeat(589), 1, 600, NONE);
        refused(x, "q = copy [a" + "a".repeat(588) + "-", 1, 600, NONE);
        refused(x, "q =" + " ".repeat(589) + "copy [a-", 1, 600, NONE);
        refused(x, "q =" + " ".repeat(592) + "ins \"", 1, 600, NONE);
        refused(x, "q =" + " ".repeat(597), 1, 600, NONE);
        refused(x, " ".repeat(600), 1, 600, NONE);
        refused(x, "q".repeat(600), 1, 0, NONE);
        Calls.due("4 600 bytes", Calls.define(x, "q =" + " ".repeat(588) + "copy \"q\""), 1);
    }

    private static void branchesAndRows() {
        refused("p = copy [b-z] | del [x-z] \"x\"", 4, 15, 'x');
        refused("p = copy \"\" | del [a]* \"\"", 4, 12, 0);
        refused("p = copy [a]* | ins \"b\"", 4, 14, 0);
        refused("p = copy [a]* | copy [a-b]* . copy \"c\"", 4, 14, 'a');
        refused("p = copy \"ab\" | del \"c\" \"c\" . ins \"ac\"", 5, 14, 'a');
        refused("p = copy [a]? | del \"c\" \"c\"", 5, 14, 0);
        refused("p = copy [a] | copy [b] | del [c] \"c\" . ins \"b\"", 5, 24, 'b');
        with("p = copy [a-b] | del \"c\" \"c\" . copy (\"a\"|\"b\")", "q = copy [a] | copy [b] | del \"c\" \"c\" . copy [a-b]");
        refused("p = copy [a]* . copy [a-b]", 6, 14, 'a');
        refused("p = copy [a-c]? . copy [b-d]", 6, 16, 'b');
        refused("p = copy (\"x\"[5-9]*) . copy [0-7]", 6, 21, '5');
        refused("p = copy [a] . copy [b]* . copy [c]? . copy [b-c]", 6, 37, 'b');
        refused("p = swap(copy [a]*, copy [a])", 6, 4, 'a');
        refused("p = copy [a]* . del \",\" \",\" . copy [a]", 7, 28, 'a');
        with("p = swap(copy [a], copy [b]*.del\",\"\",\") . ins \"b\"");
        refused("p = swap(copy \"ba\", copy [b]* . del \",\" \",\")", 7, 4, 'b');
        refused("p = del [a] \"b\"", 10, 12, NONE);
        refused("p = del [a]* \"ab\"", 10, 13, NONE);
        refused("p = del [a]+ \"\"", 10, 13, NONE);
        refused("p = la then copy [b]", 12, 7, NONE);
        refused("p = la then la then copy [b]", 12, 15, NONE);
        refused("p = copy [a]* then copy [a]+", 12, 14, NONE);
    }

    private static void repetitions() {
        refused("p = (copy [a]*)*", 8, 15, 'a');
        refused("p = (copy \"\")*", 8, 13, 0);
        refused("p = (ins \"a\")*", 8, 13, 0);
        refused("p = (copy [b-c]+)*", 8, 17, 'b');
        refused("p = copy [a]**", 8, 13, 'a');
        refused("p = (del [a] \"a\")*", 9, 17, 0);
        refused("p = (del \",\" \",\" . copy [x-z]*)*", 9, 31, 'x');
        refused("p = (del \",\" \",\" . copy [x-z]+)*", 9, 31, 'x');
        refused("p = dict (key [a]*)", 8, 4, 'a');
        refused("p = dict (del \",\" \",\" . key [x-z]+)", 9, 4, 'x');
        refused("p = dict (copy [a])", 11, 4, NONE);
        refused("p = dict (copy [a]*)", 8, 4, 'a');
        refused("p = dict del [a] \"a\"", 9, 4, 0);
        refused("p = dict dict (key [b])", 8, 4, 'b');
        refused("p = dict dict dict dict (key [b])", 8, 14, 'b');
        refused("p = dict dict (copy [b])", 11, 9, NONE);
        refused("p = dict (copy \":\" . lb)", 11, 4, NONE);
        refused("p = lb*", 8, 6, 'a');
        refused("p = dict (lb . copy \":\")", 11, 4, NONE);
        refused("p = dict (copy [a] | copy [b])", 11, 4, NONE);
        refused("p = dict (copy [a] | del \"c\" \"c\" . key [a])", 11, 4, NONE);
        refused(with("k = key [a] then copy [a]"), "p = dict k", 11, 4, NONE);
        with("k = copy [a] then key [a]", "a = dict k", "b = dict (copy [x] | key [y])",
            "c = dict (key [a] | del \"c\" \"c\" . copy [a])", "d = dict ((key [a] . copy [b])* . copy [c])",
            "e = dict (key \"\" . copy [c])", "f = dict (copy \":\" . a . key [b])");
    }

    private static void units() {
        refused("p = copy ([a]|[a-b])", 13, 13, 'a');
        refused("p = copy (\"\"|[a]*)", 13, 12, 0);
        refused("p = copy ([a]|[b]|[b-c])", 13, 17, 'b');
        refused("p = copy ([a]*[a])", 13, 14, 'a');
        refused("p = copy ([a]* ([b]|[a]))", 13, 15, 'a');
        refused("p = copy ([a]?[b]?[a]?)", 13, 18, 'a');
        refused("p = copy ([a]?)*", 13, 15, 'a');
        refused("p = copy ([a-c]+)+", 13, 17, 'a');
        with("p = copy ([a][b]*[c]?)+");
        refused("p = copy ([a][b]*[b]?)+", 13, 17, 'b');
        refused("p = copy ([a][b]*[c]*)? . copy [a-c]", 6, 24, 'a');
        with("p = copy \"\"*", "q = copy (\"\"+ [a]?)?", "r = copy ([a]?)?");
        PutBack x = with("p = copy ([a-b]*[0]|\"xy\"+)?");
        Calls.due("units", x.set(0, 0, 0), 4);
        Calls.due("units", x.set(0, 0, 1), 3);
        Calls.due("units", x.set(0, 0, 2), 2);
        Calls.due("units", x.set(0, 0, 3), 1);
    }

    /** Of several faults the one that is met first. */
    private static void order() {
        refused("p = copy [a]* . copy [a-b] !", 6, 14, 'a');
        refused("p = copy [a]* . copy [a-b]* !", 6, 14, 'a');
        refused("p = copy [a]* . (copy [a]?)*", 8, 27, 'a');
        refused("p = copy ([a]*[a]) . copy [A]", 13, 14, 'a');
        refused("p = copy [a]* . copy [a] | copy [A]", 6, 14, 'a');
        refused("p = copy [a] | copy [a] . nope", 2, 26, NONE);
        refused("p = copy [a] | copy [a] then nope", 4, 13, 'a');
        refused("p = la then copy [b] then nope", 12, 7, NONE);
        refused("p = swap(copy [a]*, copy [a]", 1, 28, NONE);
        refused("p = del [a] \"b\" . nope", 10, 12, NONE);
        refused("p = dict (copy [a]) . nope", 11, 4, NONE);
        refused("p = copy ([a]*[a]", 13, 14, 'a');
        refused("p = copy ([a]|[a]", 13, 13, 'a');
        refused("p = copy ([a]?)+!", 13, 15, 'a');
        refused("p = copy [a]* . copy [a]* | copy [b]", 6, 14, 'a');
        refused("p = (copy [a]* . copy [0]?)* . nope", 8, 27, '0');
    }

    private static void text() {
        PutBack x = new PutBack();
        Calls.due("6 empty", x.text(3), 0);
        Calls.due("6 text", Calls.say(x, 3, " ,-/0123456789:;abcdefghijklmnopqrstuvwxyz"), 42);
        Calls.due("6 tape", x.look(1), 0);
        Calls.due("6 text", Calls.read(x, 3), " ,-/0123456789:;abcdefghijklmnopqrstuvwxyz");
        Calls.due("6 sixty", Calls.say(x, 7, SIXTY), 60);
        Calls.due("6 sixty-one", Calls.say(x, 7, SIXTY + "a"), NONE);
        Calls.due("6 tape", x.look(1), 0);
        Calls.due("6 stays", Calls.read(x, 7), SIXTY);
        for (String no : new String[] {"A", "a\n", "+", ".", "<", "`", "{", "!", "\u00e1", "\u0000", "a*"}) {
            Calls.due("6 no text", Calls.say(x, 3, no), NONE);
        }
        Calls.due("6 stays", x.symbol(3, NONE), 42);
        Calls.due("6 no slot", Calls.say(x, 8, "a"), NONE);
        Calls.due("6 no slot", Calls.say(x, -1, "a"), NONE);
        Calls.due("6 tape", x.look(1), 0);
    }

    private static void symbol() {
        PutBack x = new PutBack();
        Calls.say(x, 2, "a 9");
        Calls.due("7", x.symbol(2, 0), 'a');
        Calls.due("7", x.symbol(2, 1), ' ');
        Calls.due("7", x.symbol(2, 2), '9');
        Calls.due("7", x.symbol(2, 3), NONE);
        Calls.due("7", x.symbol(2, NONE), 3);
        Calls.due("7", x.symbol(2, -2), NONE);
        Calls.due("7", x.symbol(2, MAX), NONE);
        Calls.due("7", x.symbol(2, MIN), NONE);
        Calls.due("7", x.symbol(8, 0), NONE);
        Calls.due("7", x.symbol(-1, NONE), NONE);
        Calls.due("7", x.symbol(MIN, 0), NONE);
    }

    private static void fits() {
        PutBack x = with("a = copy [a-c]+ . del \",\" \",\" . ins \"0\"");
        Calls.say(x, 0, "abc,");
        Calls.say(x, 1, "abc0");
        Calls.due("8", x.fits(0, 0, 0), 1);
        Calls.due("8", x.fits(0, 1, 0), 0);
        Calls.due("8", x.fits(0, 0, 1), 0);
        Calls.due("8", x.fits(0, 1, 1), 1);
        Calls.due("8", x.fits(0, 0, 2), 0);
        Calls.due("8", x.fits(1, 0, 0), NONE);
        Calls.due("8", x.fits(-1, 0, 0), NONE);
        Calls.due("8", x.fits(0, 2, 0), NONE);
        Calls.due("8", x.fits(0, -1, 0), NONE);
        Calls.due("8", x.fits(0, 0, 8), NONE);
        Calls.due("8", x.fits(0, 0, -1), NONE);
    }

    private static void shows(String definition, String source, String view) {
        PutBack x = with(definition);
        shows(x, 0, source, view);
    }

    private static void shows(PutBack x, int lens, String source, String view) {
        Calls.say(x, 0, source);
        Calls.due("9 get " + source, x.get(lens, 0, 1), view.length());
        Calls.due("9 get " + source, Calls.read(x, 1), view);
        Calls.due("9 source stays", Calls.read(x, 0), source);
    }

    private static void get() {
        shows("p = copy [a-c]* . del [0-9] \"0\" . key [x]", "ab5x", "abx");
        shows("p = ins \"--\" . copy [a]", "a", "--a");
        shows("p = swap(copy [a], swap(copy [b], copy [c]))", "abc", "cba");
        shows("p = swap(swap(copy [a], copy [b]), copy [c]) . copy [d]", "abcd", "cbad");
        shows("p = copy [a] | del [b] \"b\" | ins \"z\"", "b", "");
        shows("p = copy [a] | del [b] \"b\" . ins \"y\" | ins \"z\"", "", "z");
        shows("p = (copy [a]* . del \",\" \",\" . ins \";\")*", "aa,,a,", "aa;;a;");
        shows("p = dict (swap(key [a]+, copy [0]+))", "a00aa0a0", "00a0aa0a");
        shows("p = copy [a]? . copy [b]? . copy [c]?", "ac", "ac");
        PutBack x = with("a = del \"x\" \"x\" . copy [a]*", "b = copy [a]* . ins \"b\"", "c = a then b then swap(copy [a]*, copy \"b\")");
        shows(x, 2, "xaa", "baa");
        Calls.say(x, 0, "aa");
        Calls.say(x, 1, "stays");
        Calls.due("9 no source", x.get(2, 0, 1), NONE);
        Calls.due("9 nothing comes", Calls.read(x, 1), "stays");
        Calls.due("9 no lens", x.get(3, 0, 1), NONE);
        Calls.due("9 no slot", x.get(1, 8, 1), NONE);
        Calls.due("9 no slot", x.get(1, 0, 8), NONE);
        Calls.due("9 no slot", x.get(1, -1, -1), NONE);
        Calls.due("9 into itself", x.get(1, 0, 0), 3);
        Calls.due("9 into itself", Calls.read(x, 0), "aab");
        longer();
        manyTexts();
    }

    /** No text in the midst may be longer than 60. */
    private static void longer() {
        PutBack x = with("w = (copy [a] . ins \"bbbb\")*", "n = (copy [a] . del \"bbbb\" \"bbbb\")*", "wn = w then n",
            "d = dict (key [c] . wn . copy \";\")", "one = (wn . copy \";\")*");
        String twelve = "aaaaaaaaaaaa";
        shows(x, 2, twelve, twelve);
        shows(x, 3, "c" + twelve + ";", "c" + twelve + ";");
        Calls.say(x, 0, twelve + "a");
        Calls.due("9 too long", x.get(0, 0, 1), NONE);
        Calls.due("9 too long in the midst", x.get(2, 0, 1), NONE);
        Calls.due("10 too long in the midst", x.put(2, 0, 0, 1), NONE);
        Calls.due("11 too long in the midst", x.create(2, 0, 1), NONE);
        Calls.due("21 too long", x.open(0, 0), NONE);
        Calls.say(x, 2, "");
        Calls.due("10 what A shows is too long", x.put(2, 2, 0, 1), NONE);
        Calls.say(x, 3, "c" + twelve + "a;");
        Calls.due("10 a key can't be asked", x.put(3, 2, 3, 1), NONE);
        Calls.due("10 none is asked", x.create(3, 2, 1), 0);
        Calls.say(x, 4, "c;");
        Calls.due("18 a key can't be asked", x.aligned(3, 4, 3, 0), NONE);
        Calls.say(x, 3, twelve + "a;");
        Calls.due("10 no key is asked", x.put(4, 2, 3, 1), 0);
        Calls.due("9 too long within", x.get(4, 3, 1), NONE);
        // To put back, what the last one shows is not asked.
        x = with("a = (copy [a])* then (copy [a] . ins \"bbbb\")*", "w = (copy [a])* then (copy [a] . ins \"bbbb\")* then "
            + "(copy [a] . del \"bbbb\" \"bbbb\")*");
        Calls.say(x, 1, twelve + "a");
        Calls.due("9 too long", x.get(0, 1, 2), NONE);
        puts(x, 0, "abbbb", twelve + "a", "a");
        Calls.say(x, 0, "a");
        Calls.due("10 too long in the midst", x.put(1, 0, 1, 2), NONE);
        // A last one that changes nothing makes what the one ahead of it shows a text in the midst.
        x = with("a = (copy [a] . ins \"bbbb\")*", "b = a then copy \"abbbb\"*", "c = copy [a]* then a",
            "d = copy [a]* then b then copy \"abbbb\"*");
        Calls.say(x, 0, "abbbb");
        Calls.say(x, 1, twelve + "a");
        Calls.due("10 not in the midst", x.put(0, 0, 1, 2), 1);
        Calls.due("10 too long in the midst", x.put(1, 0, 1, 2), NONE);
        Calls.due("10 not in the midst", x.put(2, 0, 1, 2), 1);
        Calls.due("10 too long in the midst", x.put(3, 0, 1, 2), NONE);
        Calls.due("11 nothing is shown", x.create(3, 0, 2), 1);
        x = with("a = (del [a] \"a\" . ins \"bb\" | del \"bb\" \"bb\" . ins \"a\")*", "b = a then a");
        Calls.say(x, 0, twelve + twelve + "aaaaaa");
        Calls.due("9 sixty in the midst", x.get(1, 0, 1), 30);
        Calls.say(x, 0, twelve + twelve + "aaaaaaa");
        Calls.due("9 too long in the midst", x.get(1, 0, 1), NONE);
        Calls.due("11 too long in the midst", x.create(1, 0, 1), NONE);
        x = with("a = (copy [c] | del [a] \"a\" . ins \"bb\" | del \"bb\" \"bb\" . ins \"a\")*", "b = a then a",
            "c = copy [a]* . ins \"bbbb\" . ins \"bbbb\"", "d = c then copy ([a]*\"bbbbbbbb\")");
        Calls.say(x, 0, twelve + twelve + "aaaaaac");
        Calls.due("9 too long in the midst", x.get(1, 0, 1), NONE);
        Calls.due("11 too long in the midst", x.create(1, 0, 1), NONE);
        Calls.say(x, 0, twelve + twelve + twelve + twelve + "aaaaa");
        Calls.say(x, 1, "abbbbbbbb");
        Calls.due("10 not in the midst", x.put(2, 1, 0, 2), 1);
        Calls.due("10 too long in the midst", x.put(3, 1, 0, 2), NONE);
        x = with("a = (copy [a] . ins \"b\")* . del \"x\" \"x\"", "b = a then copy \"ab\"*");
        Calls.say(x, 0, twelve + twelve + twelve + "x");
        Calls.say(x, 1, "ab");
        Calls.due("10 not in the midst", x.put(0, 1, 0, 2), 2);
        Calls.due("10 too long in the midst", x.put(1, 1, 0, 2), NONE);
    }

    private static void manyTexts() {
        PutBack x = with("w = (copy [a] . ins \"bbbb\")*", "n = (copy [a] . del \"bbbb\" \"bbbb\")*", "wn = w then n",
            "d = dict (key [c] . wn . copy \";\")", "one = (wn . copy \";\")*");
        String twelve = "aaaaaaaaaaaa";
        // The texts in the midst of different parts are texts of their own.
        shows(x, 4, twelve + ";" + twelve + ";", twelve + ";" + twelve + ";");
    }

    /** An outcome of null: there is none, and the slot stays. */
    private static void puts(PutBack x, int lens, String view, String source, String outcome) {
        String call = "10 put '" + view + "' into '" + source + "'";
        Calls.say(x, 0, view);
        Calls.say(x, 1, source);
        Calls.say(x, 2, "stays");
        Calls.due(call, x.put(lens, 0, 1, 2), outcome == null ? NONE : outcome.length());
        Calls.due(call, Calls.read(x, 2), outcome == null ? "stays" : outcome);
    }

    private static void put() {
        PutBack x = with("a = copy [a-c]* . del [0-9] \"0\" . key [x] . ins \"-\"", "b = swap(copy [a], del [b]+ \"b\" . copy [0-9]+)");
        puts(x, 0, "ccx-", "ab5x", "cc5x");
        puts(x, 1, "77a", "abbb0", "abbb77");
        x = with("a = copy [a] | del [b] \"b\"", "b = del [0-1] \"0\" . copy [x-z] | del [5-6] \"5\" . copy [x-z]",
            "c = (copy [a] . del [0-9]* \"1\" | copy [b] . del [0-9]* \"2\") . copy \";\"",
            "d = copy [m] . del [0-9] \"3\" | b | del [n] \"n\" . copy [mx-z]",
            "e = copy \"a\" | copy \"b\" | del [0-9] \"7\" . copy [a-b]");
        puts(x, 0, "", "a", "b");
        puts(x, 0, "a", "b", "a");
        puts(x, 1, "z", "1x", "1z");
        puts(x, 1, "z", "6x", "6z");
        puts(x, 2, "a;", "a77;", "a77;");
        puts(x, 2, "b;", "a77;", "b2;");
        puts(x, 2, "b;", "b77;", "b77;");
        puts(x, 3, "m", "m5", "m5");
        puts(x, 3, "m", "1x", "m3");
        puts(x, 3, "z", "6x", "6z");
        puts(x, 3, "z", "m5", "0z");
        puts(x, 3, "z", "nm", "nz");
        puts(x, 4, "a", "b", "a");
        puts(x, 4, "a", "3b", "3a");
        repeats();
        thens();
        x = with("a = copy [a]* . del \",\" \",\"");
        Calls.say(x, 0, "aa");
        Calls.say(x, 1, "a,");
        Calls.say(x, 2, "stays");
        Calls.due("10 no view", x.put(0, 1, 1, 2), NONE);
        Calls.due("10 no source", x.put(0, 0, 0, 2), NONE);
        Calls.due("10 no lens", x.put(1, 0, 1, 2), NONE);
        Calls.due("10 no slot", x.put(0, 8, 1, 2), NONE);
        Calls.due("10 no slot", x.put(0, 0, -1, 2), NONE);
        Calls.due("10 no slot", x.put(0, 0, 1, 8), NONE);
        Calls.due("10 nothing comes", Calls.read(x, 2), "stays");
        Calls.due("10 into the source", x.put(0, 0, 1, 1), 3);
        Calls.due("10 into the source", Calls.read(x, 1), "aa,");
        x = with("a = copy [a]* . del [b]* \"\"");
        Calls.say(x, 0, SIXTY.replaceAll("[^a]", "a"));
        Calls.say(x, 1, "b");
        Calls.due("10 sixty-one", x.put(0, 0, 1, 2), NONE);
        Calls.say(x, 1, "");
        Calls.due("10 sixty", x.put(0, 0, 1, 2), 60);
    }

    private static void repeats() {
        String record = "(key [a-c]+ . del [0-9]* \"7\" . copy \";\")";
        PutBack x = with("s = " + record + "*", "d = dict " + record,
            "o = dict (key [x-z] . dict (copy \":\" . key [a-c] . del [0-9] \"8\") . copy \";\")",
            "m = (key [x-z] . (copy \":\" . key [a-c] . del [0-9] \"8\")* . copy \";\")*");
        puts(x, 0, "b;a;", "a1;b2;c3;", "b1;a2;");
        puts(x, 0, "b;a;c;", "a1;", "b1;a7;c7;");
        puts(x, 0, "", "a1;", "");
        puts(x, 1, "b;a;", "a1;b2;c3;", "b2;a1;");
        puts(x, 1, "a;a;a;", "a1;b2;a3;", "a1;a3;a7;");
        puts(x, 1, "cc;c;", "c1;cc2;", "cc2;c1;");
        puts(x, 1, "", "c1;", "");
        puts(x, 1, "c;", "", "c7;");
        puts(x, 2, "y:b;x:b:a;", "x:a1:b2;y:a3:b4;", "y:b4;x:b2:a1;");
        puts(x, 2, "y:b;z:c;", "x:a1:b2;y:a3:b4;", "y:b4;z:c8;");
        puts(x, 3, "y:b;z:c;", "x:a1:b2;y:a3:b4;", "y:b1;z:c3;");
    }

    private static void thens() {
        PutBack x = with("a = (copy [a-c] . del [0-9] \"1\" . ins \"/\")*", "b = (copy [a-c] . copy \"/\" . ins \":\")*",
            "c = a then b", "d = dict (key [a-c] . del \"/:\" \"/:\" . ins \"x\")", "e = c then d", "f = a then b then d");
        puts(x, 2, "b/:a/:", "a5c6b7", "b5a6");
        puts(x, 2, "b/:a/:c/:", "a5c6", "b5a6c1");
        puts(x, 4, "bxax", "a5b6", "b5a6");
        puts(x, 5, "bxaxcx", "a5b6", "b5a6c1");
        shows(x, 5, "a5b6", "axbx");
        // A dict behind: its parts are aligned by key, and then those of the lens ahead by place.
        x = with("a = dict (key [a-c] . del [0-9] \"1\" . copy \";\")", "b = (swap(copy [a-c], copy \";\"))*", "c = a then b");
        puts(x, 2, ";b;a", "a5;b6;", "b6;a5;");
        thensOfAlike();
        longInTheMidst();
        longInTheMidstOfParts();
    }

    /** Letters, a comma, and 40 symbols more; and the lens that takes these away again. */
    private static PutBack swelling(String... more) {
        String[] definitions = new String[more.length + 3];
        String twenty = "\"bbbbbbbbbbbbbbbbbbbb\"";
        definitions[0] = "x = copy [a]+ . copy \",\" . ins " + twenty + " . ins " + twenty;
        definitions[1] = "y = copy [a]+ . copy \",\" . del " + twenty + twenty + " . del " + twenty + twenty;
        definitions[2] = "t = x then y";
        System.arraycopy(more, 0, definitions, 3, more.length);
        return with(definitions);
    }

    /** What the lens ahead shows of the source is asked, though it goes nowhere or changes nothing. */
    private static void longInTheMidst() {
        PutBack x = swelling("u = t* then t*", "v = t* then copy ([a]+ \",\")*", "b = t | copy [0-1]+", "w = b then b",
            "z = copy ([a]+ \",\")* then t*");
        String most = SIXTY.substring(0, 19).replaceAll(".", "a") + ",";
        String more = "a" + most;
        for (int lens : new int[] {3, 4}) {
            puts(x, lens, "", most, "");
            puts(x, lens, "", more, null);
            puts(x, lens, "a,", more, null);
            puts(x, lens, "a,", "aa," + more, null);
            puts(x, lens, "a,", "aa," + most, "a,");
            puts(x, lens, more, "a,", null);
            puts(x, lens, most, "a,", most);
            made(x, lens, most, most);
            made(x, lens, more, null);
            Calls.say(x, 0, more);
            Calls.due("9 in the midst", x.get(lens, 0, 1), NONE);
            Calls.due("21 in the midst", x.open(lens, 0), NONE);
        }
        puts(x, 6, "01", most, "01");
        puts(x, 6, "01", more, null);
        puts(x, 6, "a,", "01", "a,");
        // Alone, or behind all others, nothing is shown of the part that is dropped.
        puts(x, 5, "01", more, "01");
        puts(x, 7, "", more, "");
        puts(x, 7, "a,", more, null);
    }

    private static void longInTheMidstOfParts() {
        String more = SIXTY.substring(0, 20).replaceAll(".", "a") + ",";
        PutBack x = swelling("d = dict (key [8-9] . t)", "e = d then d");
        puts(x, 3, "", "8" + more, null);
        puts(x, 4, "", "8" + more, null);
        puts(x, 4, "9a,", "8a," + "9aa,", "9a,");
        x = swelling("f = t . copy [0-1]*", "g = f then f", "h = f then copy ([a]+ \",\" [0-1]*)");
        for (int lens : new int[] {4, 5}) {
            puts(x, lens, "a,01", more.substring(1) + "0110", "a,01");
            puts(x, lens, "a,01", more + "0110", null);
        }
        x = swelling("f = t then t", "g = f | copy [0-1]", "h = g then g");
        puts(x, 5, "1", more.substring(1), "1");
        puts(x, 5, "1", more, null);
        // A text that becomes shorter at first, and one that can't be long at all.
        x = swelling("s = copy [a]+ . del \",\" \",\"", "r = copy [a]+ . ins \",\"", "q = s then r",
            "p = (copy [0-9] . q)* then (copy [0-9] . q)*");
        puts(x, 6, "", "1" + SIXTY.substring(0, 57).replaceAll(".", "a") + ",", "");
        x = with("a = copy [a] . ins \"bbbbbbbbbbbbbbbbbbbb\"", "b = copy [a] . del \"bbbbbbbbbbbbbbbbbbbb\" \"bbbbbbbbbbbbbbbbbbbb\"",
            "c = a then b", "d = c* then c*", "e = a* then b*");
        puts(x, 3, "a", SIXTY.replaceAll(".", "a"), "a");
        puts(x, 4, "a", "aa", "a");
        puts(x, 4, "a", "aaa", null);
    }

    /** Rows, branches and repetitions behind others of their kind. */
    private static void thensOfAlike() {
        String flip = "(del \"a\" \"a\" . ins \"b\" | del \"b\" \"b\" . ins \"a\")";
        PutBack x = with("a = " + flip + "*", "b = a then (copy \"a\" | del \"b\" \"b\" . ins \"a\")*",
            "c = a then a then a", "d = c then (copy \"a\" . ins \"\" | key \"b\")* then (del \"a\" \"a\" . ins \"b\" | del \"b\" \"b\" . ins \"a\")*",
            "e = (copy \"a\" | del [b-c] \"c\" . ins \"b\")* then a");
        shows(x, 1, "aab", "aaa");
        puts(x, 1, "aaaa", "aab", "aabb");
        puts(x, 1, "a", "baa", "b");
        shows(x, 2, "aab", "bba");
        puts(x, 2, "ab", "bbb", "ba");
        shows(x, 3, "aab", "aab");
        puts(x, 3, "abba", "b", "abba");
        shows(x, 4, "abc", "baa");
        puts(x, 4, "aaab", "abba", "cbba");
        x = with("a = swap(copy [a-c], copy [0-9] . del [0-9] \"5\" . ins \"6\")", "b = a then swap(copy [0-9] . copy \"6\", copy [a-c])",
            "c = b then copy [a-c] . (copy [0-9] . copy \"6\")", "d = c then swap(copy [a-c], copy [0-9] . copy \"6\")");
        shows(x, 1, "a12", "a16");
        puts(x, 1, "b76", "a12", "b72");
        shows(x, 3, "a12", "16a");
        puts(x, 3, "76b", "a12", "b72");
        made(x, 3, "76b", "b75");
        x = with("a = del [0-9] \"5\" then ins \"x\"", "b = ins \"x\" then del \"x\" \"x\"", "c = del [0-9] \"5\" then del \"\" \"\"",
            "d = (copy [a] . a)* then (copy [a] . copy \"x\")*");
        shows(x, 0, "7", "x");
        puts(x, 0, "x", "7", "7");
        made(x, 0, "x", "5");
        shows(x, 1, "", "");
        made(x, 1, "", "");
        shows(x, 2, "7", "");
        puts(x, 2, "", "7", "7");
        made(x, 2, "", "5");
        shows(x, 3, "a7a8", "axax");
        puts(x, 3, "axaxax", "a7a8", "a7a8a5");
        // By which branch a view goes back, and whether into the source.
        x = with("a = copy \"a\" . del [0-9] \"1\" . ins \"x\" | copy \"b\" . del [0-9] \"2\" . ins \"x\"",
            "b = del \"b\" \"b\" . ins \"a\" . copy \"x\" | del \"a\" \"a\" . ins \"b\" . copy \"x\"", "c = a then b then b then b");
        shows(x, 2, "a7", "bx");
        puts(x, 2, "bx", "a7", "a7");
        puts(x, 2, "ax", "a7", "b2");
        puts(x, 2, "ax", "b7", "b7");
        made(x, 2, "bx", "a1");
    }

    private static void made(PutBack x, int lens, String view, String outcome) {
        Calls.say(x, 0, view);
        Calls.say(x, 1, "stays");
        Calls.due("11 create '" + view + "'", x.create(lens, 0, 1), outcome == null ? NONE : outcome.length());
        Calls.due("11 create '" + view + "'", Calls.read(x, 1), outcome == null ? "stays" : outcome);
    }

    private static void create() {
        PutBack x = with("a = copy [a-c]* . del [0-9]* \"00\" . key [x] . ins \"-\"",
            "b = del [0-1] \"0\" . copy [x-z] | del [5-6] \"5\" . copy [x-z] | copy [m] . del \"n\" \"n\"",
            "c = swap(copy [a] . del [0-9] \"4\", copy [b]* . del [0-9] \"5\")",
            "d = dict (key [a-c]+ . del [0-9]* \"7\" . copy \";\")",
            "e = (copy [a] . del [0-9]? \"\")* then (copy [a] . ins \"b\")*");
        made(x, 0, "abx-", "ab00x");
        made(x, 1, "y", "0y");
        made(x, 1, "m", "mn");
        made(x, 2, "bba", "a4bb5");
        made(x, 3, "b;a;b;", "b7;a7;b7;");
        made(x, 3, "", "");
        made(x, 4, "abab", "aa");
        Calls.say(x, 1, "stays");
        Calls.due("11 no view", x.create(0, 1, 1), NONE);
        Calls.due("11 nothing comes", Calls.read(x, 1), "stays");
        Calls.due("11 no lens", x.create(5, 0, 1), NONE);
        Calls.due("11 no lens", x.create(-1, 0, 1), NONE);
        Calls.due("11 no slot", x.create(0, 8, 1), NONE);
        Calls.due("11 no slot", x.create(0, 0, 8), NONE);
        x = with("a = (copy [a] . del [b]* \"bbbbbb\")*");
        Calls.say(x, 0, "aaaaaaaaa");
        Calls.due("11 sixty-three", x.create(0, 0, 1), NONE);
        Calls.say(x, 0, "aaaaaaaa");
        Calls.due("11 fifty-six", x.create(0, 0, 1), 56);
    }

    private static void many() {
        PutBack x = with("a = copy [a-z]*", "b = del ([a-b][0-9]*|\"\") \"\" . ins \"xy\"", "c = copy [a-c] . copy [0-1]? . copy \"z\"");
        Calls.due("12", x.many(0, 0, 0), 1);
        Calls.due("12", x.many(0, 0, 1), 26);
        Calls.due("12", x.many(0, 0, 2), 676);
        Calls.due("12", x.many(0, 0, 12), 95428956661682176L);
        Calls.due("12 at most", x.many(0, 0, 13), 1000000000000000000L);
        Calls.due("12 at most", x.many(0, 1, 20), 1000000000000000000L);
        Calls.due("12", x.many(1, 0, 0), 1);
        Calls.due("12", x.many(1, 0, 1), 2);
        Calls.due("12", x.many(1, 0, 18), 200000000000000000L);
        Calls.due("12", x.many(1, 0, 19), 1000000000000000000L);
        Calls.due("12", x.many(1, 1, 2), 1);
        Calls.due("12", x.many(1, 1, 0), 0);
        Calls.due("12", x.many(2, 0, 2), 3);
        Calls.due("12", x.many(2, 0, 3), 6);
        Calls.due("12", x.many(2, 0, 4), 0);
        Calls.due("12", x.many(0, 0, 21), NONE);
        Calls.due("12", x.many(0, 0, -1), NONE);
        Calls.due("12", x.many(3, 0, 0), NONE);
        Calls.due("12", x.many(0, 2, 0), NONE);
    }

    private static void told(PutBack x, int lens, int side, int i, String want) {
        Calls.due("13 nth " + i, x.nth(lens, side, i, 4), want.length());
        Calls.due("13 nth " + i, Calls.read(x, 4), want);
    }

    private static void nth() {
        PutBack x = with("a = copy [b ,a]*", "b = copy \"z\" | copy \"aa\" | copy [0-1] . copy \"x\"", "c = copy [a]*",
            "d = copy (\"aaaaaaaaaaaaaaaaaaaa\"\"b\")");
        String[] least = {"", " ", ",", "a", "b", "  ", " ,", " a", " b", ", ", ",,"};
        for (int i = 0; i < least.length; i++) {
            told(x, 0, i % 2, i, least[i]);
        }
        told(x, 1, 0, 0, "z");
        told(x, 1, 0, 1, "0x");
        told(x, 1, 0, 2, "1x");
        told(x, 1, 0, 3, "aa");
        Calls.due("13 no more", x.nth(1, 0, 4, 4), NONE);
        Calls.due("13 stays", Calls.read(x, 4), "aa");
        Calls.due("13 of 20 symbols", x.nth(2, 0, 20, 4), 20);
        Calls.due("13 of 21 symbols", x.nth(2, 0, 21, 4), NONE);
        Calls.due("13 of 21 symbols", x.nth(3, 1, 0, 4), NONE);
        Calls.due("13 999", x.nth(0, 0, 999, 4), 5);
        Calls.due("13 1000", x.nth(0, 0, 1000, 4), NONE);
        Calls.due("13 -1", x.nth(0, 0, -1, 4), NONE);
        Calls.due("13 no slot", x.nth(0, 0, 0, 8), NONE);
        Calls.due("13 no side", x.nth(0, 2, 0, 4), NONE);
        Calls.due("13 no lens", x.nth(4, 0, 0, 4), NONE);
    }

    private static void compare() {
        PutBack x = with("a = copy [a-b]*", "b = copy [a-c]*", "c = copy (\"a\"|\"b\")*", "d = copy [a-b]+", "e = copy [x]",
            "f = copy (\"a\"(\"a\"|\"b\")*|\"b\"[a-b]*)");
        Calls.due("14", x.compare(0, 0, 0, 1), 0);
        Calls.due("14", x.compare(0, 0, 1, 1), 1);
        Calls.due("14", x.compare(1, 0, 0, 1), 2);
        Calls.due("14", x.compare(0, 0, 2, 1), 0);
        Calls.due("14", x.compare(0, 0, 3, 1), 2);
        Calls.due("14", x.compare(3, 0, 0, 1), 1);
        Calls.due("14", x.compare(4, 0, 0, 1), 3);
        Calls.due("14", x.compare(1, 0, 3, 1), 2);
        Calls.due("14", x.compare(5, 0, 3, 1), 0);
        Calls.due("14", x.compare(5, 0, 4, 1), 3);
        Calls.due("14", x.compare(6, 0, 0, 0), NONE);
        Calls.due("14", x.compare(0, 0, -1, 0), NONE);
        Calls.due("14", x.compare(0, 2, 0, 0), NONE);
        Calls.due("14", x.compare(0, 0, 0, -1), NONE);
    }

    private static void set() {
        PutBack x = with("a = copy ([a]?[b]*) . del \",\"? \",\" . copy (\"xy\"|\"zz\")?", "b = swap(a, ins \"000\")");
        int[] sources = {7, 5, 5, 1};
        int[] views = {6, 4, 4, 1};
        for (int what = 0; what < 4; what++) {
            Calls.due("15 " + what, x.set(0, 0, what), sources[what]);
            Calls.due("15 " + what, x.set(0, 1, what), views[what]);
        }
        Calls.due("15", x.set(1, 1, 0), 9);
        Calls.due("15", x.set(1, 1, 1), 1);
        Calls.due("15", x.set(1, 1, 2), 5);
        Calls.due("15", x.set(1, 1, 3), 0);
        Calls.due("15", x.set(0, 0, 4), NONE);
        Calls.due("15", x.set(0, 0, -1), NONE);
        Calls.due("15", x.set(0, 2, 0), NONE);
        Calls.due("15", x.set(2, 0, 0), NONE);
    }

    private static void goesOn() {
        PutBack x = with("a = copy [a-b]+ . del [, ] \",\" . copy [0-9]?");
        Calls.say(x, 0, "a");
        Calls.say(x, 1, "a,");
        Calls.say(x, 2, "a,5");
        Calls.say(x, 3, "a55");
        String want = " ,ab";
        Calls.due("16", x.goesOn(0, 0, 0, NONE), 4);
        for (int i = 0; i < 4; i++) {
            Calls.due("16", x.goesOn(0, 0, 0, i), want.charAt(i));
        }
        Calls.due("16", x.goesOn(0, 0, 0, 4), NONE);
        Calls.due("16", x.goesOn(0, 0, 0, -2), NONE);
        Calls.due("16", x.goesOn(0, 0, 4, NONE), 2);
        Calls.due("16", x.goesOn(0, 0, 1, NONE), 10);
        Calls.due("16", x.goesOn(0, 0, 1, 9), '9');
        Calls.due("16", x.goesOn(0, 1, 0, NONE), 12);
        Calls.due("16 at its end", x.goesOn(0, 0, 2, NONE), 0);
        Calls.due("16 at its end", x.goesOn(0, 0, 2, 0), NONE);
        Calls.due("16 none begins so", x.goesOn(0, 0, 3, NONE), NONE);
        Calls.due("16", x.goesOn(1, 0, 0, 0), NONE);
        Calls.due("16", x.goesOn(0, 2, 0, 0), NONE);
        Calls.due("16", x.goesOn(0, 0, 8, 0), NONE);
        x = with("a = copy [a]*");
        Calls.say(x, 0, SIXTY.replaceAll(".", "a"));
        Calls.due("16 sixty", x.goesOn(0, 0, 0, NONE), 1);
    }

    private static PutBack keyed() {
        String record = "(swap(key [a-c]+, copy [0-9]+ . key [x-z]) . del \"/\"? \"\" . ins \";\")";
        PutBack x = with("d = dict " + record, "s = " + record + "*", "t = d then (copy [0-9]+ . copy [x-z] . key [a-c]+ . copy \";\")*",
            "r = d . ins \"\"", "n = (copy [a])*", "i = d", "b = (key [a] . del [0-9] \"1\" | key [b] | copy [c])*",
            "m = dict (key [a-b] . copy [0-9] | del \"-\" \"-\" . copy [a-b] . key [0-9])");
        Calls.say(x, 0, "1xab;22yc;1xab;");
        Calls.say(x, 1, "ab1x/c22y/ab5x");
        return x;
    }

    private static void parts() {
        PutBack x = keyed();
        Calls.due("17", x.parts(0, 0), 3);
        Calls.due("17", x.parts(1, 0), 3);
        Calls.due("17 then", x.parts(2, 0), 3);
        Calls.due("17 a row", x.parts(3, 0), NONE);
        Calls.due("17 a name", x.parts(5, 0), 3);
        Calls.due("17 no view", x.parts(0, 1), NONE);
        Calls.due("17 empty", x.parts(0, 2), 0);
        Calls.due("17", x.parts(8, 0), NONE);
        Calls.due("17", x.parts(-1, 0), NONE);
        Calls.due("17", x.parts(0, 8), NONE);
        x = with("a = (copy [a]*)", "b = copy [a]*", "c = (copy [a])*", "d = ((copy [a])*)", "e = (copy [a])* . copy [b]");
        int[] want = {NONE, NONE, 1, 1, NONE};
        Calls.say(x, 0, "a");
        for (int i = 0; i < 5; i++) {
            Calls.due("17 of " + i, x.parts(i, 0), want[i]);
        }
    }

    private static void aligned() {
        PutBack x = keyed();
        int[] byKey = {0, 1, 2};
        for (int i = 0; i < 3; i++) {
            Calls.due("18", x.aligned(0, 0, 1, i), byKey[i]);
            Calls.due("18", x.aligned(1, 0, 1, i), i);
        }
        Calls.say(x, 1, "c5y/ab1x");
        int[] other = {1, 0, -2};
        int[] place = {0, 1, -2};
        for (int i = 0; i < 3; i++) {
            Calls.due("18 " + i, x.aligned(0, 0, 1, i), other[i]);
            Calls.due("18 " + i, x.aligned(5, 0, 1, i), other[i]);
            Calls.due("18 " + i, x.aligned(1, 0, 1, i), place[i]);
        }
        Calls.due("18 no part", x.aligned(0, 0, 1, 3), NONE);
        Calls.due("18 no part", x.aligned(0, 0, 1, -1), NONE);
        Calls.due("18 then", x.aligned(2, 0, 1, 0), NONE);
        Calls.due("18 a row", x.aligned(3, 0, 1, 0), NONE);
        Calls.due("18 no view", x.aligned(0, 1, 1, 0), NONE);
        Calls.due("18 no source", x.aligned(0, 0, 0, 0), NONE);
        Calls.due("18 no slot", x.aligned(0, 8, 1, 0), NONE);
        Calls.due("18 no slot", x.aligned(0, 0, -1, 0), NONE);
        Calls.due("18 no lens", x.aligned(8, 0, 1, 0), NONE);
        // The views of both branches are the same: the key is that of the first one.
        Calls.say(x, 0, "b7a5");
        Calls.say(x, 1, "a5-b6");
        Calls.due("18 branches", x.aligned(7, 0, 1, 0), 1);
        Calls.due("18 branches", x.aligned(7, 0, 1, 1), 0);
        // Of "then" the key is that of the last one.
        x = with("t = swap(key [a-c], copy [0-9]) then (copy [0-9] . key [a-c])",
            "v = key [a-c] . copy [0-9] then swap(copy [a-c], key [0-9])", "d = dict t", "e = dict v");
        Calls.say(x, 0, "1b2a");
        Calls.say(x, 1, "a1b2");
        Calls.due("18 then", x.aligned(2, 0, 1, 0), 1);
        Calls.due("18 then", x.aligned(2, 0, 1, 1), 0);
        Calls.due("18 then", x.aligned(3, 0, 1, 0), 0);
        Calls.due("18 then", x.aligned(3, 0, 1, 1), 1);
        Calls.due("19 then", x.key(2, 0, 0, 2), 1);
        Calls.due("19 then", Calls.read(x, 2), "b");
        Calls.due("19 then", x.key(3, 0, 0, 2), 1);
        Calls.due("19 then", Calls.read(x, 2), "1");
    }

    private static void hasKey(PutBack x, int lens, int i, String want) {
        Calls.due("19 key " + lens + " " + i, x.key(lens, 0, i, 3), want.length());
        Calls.due("19 key " + lens + " " + i, Calls.read(x, 3), want);
    }

    private static void key() {
        PutBack x = keyed();
        hasKey(x, 0, 0, "xab");
        hasKey(x, 0, 1, "yc");
        hasKey(x, 1, 2, "xab");
        hasKey(x, 2, 1, "c");
        Calls.due("19 no part", x.key(0, 0, 3, 3), NONE);
        Calls.due("19 no part", x.key(0, 0, -1, 3), NONE);
        Calls.due("19 a row", x.key(3, 0, 0, 3), NONE);
        Calls.due("19 no view", x.key(0, 1, 0, 3), NONE);
        Calls.due("19 no slot", x.key(0, 0, 0, 8), NONE);
        Calls.due("19 no slot", x.key(0, 8, 0, 3), NONE);
        Calls.due("19 no lens", x.key(8, 0, 0, 3), NONE);
        Calls.due("19 stays", Calls.read(x, 3), "c");
        Calls.say(x, 0, "aa");
        hasKey(x, 4, 1, "");
        Calls.say(x, 0, "bca");
        hasKey(x, 6, 0, "b");
        hasKey(x, 6, 1, "");
        hasKey(x, 6, 2, "a");
        Calls.say(x, 0, "b7");
        hasKey(x, 7, 0, "b");
        x = with("o = dict (key [x] . dict (key [a-c]) . (key [0-9] . copy \"/\")*)");
        Calls.say(x, 0, "xab1/2/xc");
        hasKey(x, 0, 0, "x12");
        hasKey(x, 0, 1, "x");
    }

    private static void laws() {
        PutBack x = with("a = copy [a-c] . del [0-9] \"0\"", "b = copy [a] . del [0-9] \"5\" | copy [b] . del [0-9] \"5\"",
            "c = dict (key [a] . del [0-9] \"5\")", "d = copy (\"aaaaaaaaaaaaaaaaaaaa\"\"b\")");
        for (int kind = 0; kind < 4; kind++) {
            Calls.due("20 " + kind, x.laws(0, kind, 5), 0);
            Calls.due("20 none at all " + kind, x.laws(3, kind, 5), 0);
        }
        // a0 .. a4 with a, b: each digit but 5 is lost behind the other letter.
        Calls.due("20", x.laws(1, 0, 5), 0);
        Calls.due("20", x.laws(1, 1, 5), 0);
        Calls.due("20", x.laws(1, 2, 5), 5);
        Calls.due("20", x.laws(1, 2, 1), 0);
        Calls.due("20", x.laws(1, 3, 5), 0);
        // "", a0 .. a3 with "", a, aa ..: what was dropped is made anew with 5.
        Calls.due("20", x.laws(2, 2, 2), 1);
        Calls.due("20 no n", x.laws(0, 0, 0), NONE);
        Calls.due("20 no n", x.laws(0, 0, 6), NONE);
        Calls.due("20 no kind", x.laws(0, 4, 1), NONE);
        Calls.due("20 no kind", x.laws(0, -1, 1), NONE);
        Calls.due("20 no lens", x.laws(4, 0, 1), NONE);
        Calls.due("20 no lens", x.laws(-1, 0, 1), NONE);
        lawsTooLong();
    }

    /** What would be too long counts as a law that doesn't hold. */
    private static void lawsTooLong() {
        String twenty = "\"" + SIXTY.substring(0, 20) + "\"";
        PutBack x = with("a = (copy [a] . ins " + twenty + ")*", "b = a then (copy [a] . del " + twenty + twenty + ")*",
            "c = (copy [a] . del [b]* \"bbbbbbbbbbbbbbbbbbbb\")*");
        Calls.due("20 shown", x.laws(0, 0, 5), 2);
        Calls.due("20 shown in the midst", x.laws(1, 0, 5), 2);
        Calls.due("20 put", x.laws(1, 1, 5), 16);
        Calls.due("20 twice", x.laws(1, 2, 5), 98);
        Calls.due("20 anew", x.laws(1, 3, 5), 2);
        Calls.due("20 anew", x.laws(2, 3, 5), 2);
        // The fourth part goes through 61 symbols: as a source it has no view, as a view no source.
        String many = " . ins " + twenty + " . ins " + twenty + " . ins \"123456\"";
        String head = "copy \"0123456789\" . copy [a]+ . copy \",\"";
        x = with("a = " + head + many, "b = " + head + many.replaceAll("ins (\"\\w+\")", "del $1 $1"), "c = a then b",
            "d = c* then c*");
        Calls.due("20 shown in the midst", x.laws(3, 0, 5), 1);
        Calls.due("20 put in the midst", x.laws(3, 1, 5), 9);
        Calls.due("20 twice in the midst", x.laws(3, 2, 5), 125 - 64);
        Calls.due("20 anew in the midst", x.laws(3, 3, 5), 1);
    }

    private static void open() {
        PutBack x = with("a = copy [a-c]+ . del \",\" \",\" . ins \"--\"", "b = copy [x]");
        Calls.say(x, 0, "ab,");
        Calls.say(x, 1, "ab--");
        Calls.due("21 no source", x.open(0, 1), NONE);
        Calls.due("21 nothing", x.look(2), NONE);
        Calls.due("21 open", x.open(0, 0), 4);
        Calls.due("21 lens", x.look(2), 0);
        Calls.due("21 an edit", x.edit(1, 0, 1, 2), 2);
        Calls.due("21 refused", x.edit(1, 0, 1, 2), NONE);
        Calls.due("21 no lens", x.open(2, 0), NONE);
        Calls.due("21 no lens", x.open(-1, 0), NONE);
        Calls.due("21 no slot", x.open(0, 8), NONE);
        Calls.due("21 no source", x.open(1, 0), NONE);
        Calls.due("21 all stays", x.look(2), 0);
        Calls.due("21 all stays", x.look(3), 1);
        Calls.due("21 all stays", x.look(4), 1);
        Calls.due("21 all stays", x.moved(1), 1);
        Calls.due("21 all stays", x.copy(0, 5), 2);
        Calls.say(x, 0, "x");
        Calls.due("21 again", x.open(1, 0), 1);
        Calls.due("21 again", x.look(2), 1);
        Calls.due("21 nothing to undo", x.look(3), 0);
        Calls.due("21 nothing to undo", x.undo(), false);
        Calls.due("21 none refused", x.look(4), 0);
        Calls.due("21 nothing moved", x.moved(0), NONE);
        Calls.say(x, 0, "y");
        Calls.due("21 a copy of the slot", x.copy(0, 6), 1);
        Calls.due("21 a copy of the slot", Calls.read(x, 6), "x");
    }

    private static void edit() {
        PutBack x = with("a = (copy [a-c] . del [0-9]* \"7\" . ins \";\")*");
        Calls.due("22 nothing is open", x.edit(0, 0, 0, 0), NONE);
        Calls.due("22 nothing is open", x.look(4), 0);
        Calls.say(x, 0, "a1b22");
        Calls.say(x, 1, "c;");
        Calls.say(x, 2, "c333");
        Calls.due("22 open", x.open(0, 0), 4);
        Calls.due("22 view", x.edit(1, 2, 0, 1), 7);
        both(x, "a1c22b7", "a;c;b;");
        Calls.due("22 source", x.edit(0, 2, 3, 2), 6);
        both(x, "a1c333b7", "a;c;b;");
        Calls.due("22 view", x.edit(1, 0, 6, 7), 0);
        both(x, "", "");
        Calls.due("22 source", x.edit(0, 0, 0, 2), 2);
        both(x, "c333", "c;");
        Calls.due("22 not a view", x.edit(1, 1, 1, 7), NONE);
        Calls.due("22 not a source", x.edit(0, 0, 1, 7), NONE);
        Calls.due("22 no side", x.edit(2, 0, 0, 7), NONE);
        Calls.due("22 no side", x.edit(-1, 0, 0, 7), NONE);
        Calls.due("22 no slot", x.edit(0, 0, 0, 8), NONE);
        Calls.due("22 no place", x.edit(0, 5, 0, 2), NONE);
        Calls.due("22 no place", x.edit(0, -1, 1, 2), NONE);
        Calls.due("22 no place", x.edit(0, MAX, MAX, 2), NONE);
        Calls.due("22 not so many", x.edit(0, 3, 2, 2), NONE);
        Calls.due("22 not so many", x.edit(0, 3, -1, 2), NONE);
        both(x, "c333", "c;");
        Calls.due("22 refused", x.look(4), 10);
        Calls.due("22 at the end", x.edit(0, 4, 0, 2), 4);
        both(x, "c333c333", "c;c;");
        tooLong();
    }

    private static void tooLong() {
        PutBack x = with("a = copy [a-j]* . del [0-9]* \"\"", "b = (copy [a] . ins \"b\")*");
        Calls.say(x, 0, "12345");
        Calls.say(x, 1, SIXTY.substring(0, 55));
        Calls.say(x, 2, "a");
        Calls.due("22 open", x.open(0, 0), 0);
        Calls.due("22 sixty", x.edit(1, 0, 0, 1), 60);
        Calls.due("22 the source would be longer", x.edit(1, 0, 0, 2), NONE);
        Calls.due("22 the text itself would be longer", x.edit(0, 0, 0, 2), NONE);
        both(x, SIXTY.substring(0, 55) + "12345", SIXTY.substring(0, 55));
        Calls.say(x, 0, SIXTY.substring(0, 30).replaceAll(".", "a"));
        Calls.due("22 open", x.open(1, 0), 60);
        Calls.due("22 the view would be longer", x.edit(0, 0, 0, 2), NONE);
        Calls.due("22 shorter", x.edit(0, 0, 1, 7), 58);
    }

    private static void both(PutBack x, String source, String view) {
        Calls.due("24 source", x.copy(0, 5), source.length());
        Calls.due("24 source", Calls.read(x, 5), source);
        Calls.due("24 view", x.copy(1, 5), view.length());
        Calls.due("24 view", Calls.read(x, 5), view);
    }

    private static void undo() {
        PutBack x = with("a = copy [a-z]* . del [0-9] \"0\"");
        Calls.due("23 nothing", x.undo(), false);
        Calls.say(x, 0, "5");
        x.open(0, 0);
        for (int i = 0; i < 10; i++) {
            Calls.say(x, 1, SIXTY.substring(i, i + 1));
            Calls.due("23 edit", x.edit(1, i, 0, 1), i + 2);
            Calls.due("23 kept", x.look(3), Math.min(8, i + 1));
        }
        x.edit(1, 0, 0, 0);
        Calls.due("23 a refused one isn't kept", x.look(3), 8);
        for (int i = 9; i >= 2; i--) {
            Calls.due("23 undo", x.undo(), true);
            both(x, SIXTY.substring(0, i) + "5", SIXTY.substring(0, i));
            Calls.due("23 kept", x.look(3), i - 2);
        }
        Calls.due("23 no more", x.undo(), false);
        both(x, "ab5", "ab");
        Calls.due("23 edit", x.edit(0, 0, 0, 1), 3);
        Calls.due("23 undo", x.undo(), true);
        both(x, "ab5", "ab");
        Calls.due("23 refused ones stay counted", x.look(4), 1);
    }

    private static void copy() {
        PutBack x = with("a = copy [a] . ins \"bb\"");
        Calls.due("24 nothing is open", x.copy(0, 0), NONE);
        Calls.say(x, 0, "a");
        x.open(0, 0);
        both(x, "a", "abb");
        Calls.due("24 no side", x.copy(2, 5), NONE);
        Calls.due("24 no side", x.copy(-1, 5), NONE);
        Calls.due("24 no slot", x.copy(0, 8), NONE);
        Calls.due("24 no slot", x.copy(1, -1), NONE);
        Calls.due("24 stays", Calls.read(x, 5), "abb");
    }

    private static void movedIs(PutBack x, int stayed, int went, int came) {
        Calls.due("25 stayed", x.moved(0), stayed);
        Calls.due("25 went", x.moved(1), went);
        Calls.due("25 came", x.moved(2), came);
        Calls.due("25 no what", x.moved(3), NONE);
        Calls.due("25 no what", x.moved(-1), NONE);
    }

    private static void moved() {
        PutBack x = with("a = copy [a-z]* . del [0-9]* \"0\"");
        movedIs(x, NONE, NONE, NONE);
        Calls.say(x, 0, "aaa5");
        Calls.say(x, 1, "a");
        Calls.say(x, 2, "bc");
        x.open(0, 0);
        movedIs(x, NONE, NONE, NONE);
        x.edit(1, 0, 0, 1);
        movedIs(x, 3, 0, 1);
        x.edit(1, 1, 2, 2);
        movedIs(x, 1, 2, 2);
        x.edit(0, 1, 2, 7);
        movedIs(x, 1, 2, 0);
        x.edit(0, 0, 0, 0);
        movedIs(x, 1, 2, 0);
        x.edit(0, 3, 0, 7);
        movedIs(x, 2, 0, 0);
        x.undo();
        movedIs(x, NONE, NONE, NONE);
        x.edit(1, 0, 2, 7);
        movedIs(x, 0, 2, 0);
        x.open(0, 0);
        movedIs(x, NONE, NONE, NONE);
    }

    private static void join() {
        PutBack x = new PutBack();
        Calls.say(x, 0, "ab");
        Calls.say(x, 1, "cd");
        Calls.due("26", x.join(0, 1, 2), 4);
        Calls.due("26", Calls.read(x, 2), "abcd");
        Calls.due("26", x.join(1, 0, 0), 4);
        Calls.due("26", Calls.read(x, 0), "cdab");
        Calls.due("26", x.join(1, 1, 1), 4);
        Calls.due("26", Calls.read(x, 1), "cdcd");
        Calls.due("26 empty", x.join(7, 7, 6), 0);
        Calls.say(x, 3, SIXTY.substring(0, 56));
        Calls.due("26 sixty", x.join(3, 1, 4), 60);
        Calls.due("26 longer", x.join(3, 4, 1), NONE);
        Calls.due("26 stays", Calls.read(x, 1), "cdcd");
        Calls.due("26", x.join(8, 0, 0), NONE);
        Calls.due("26", x.join(0, -1, 0), NONE);
        Calls.due("26", x.join(0, 0, 8), NONE);
    }

    private static void cut() {
        PutBack x = new PutBack();
        Calls.say(x, 0, "abcdef");
        Calls.due("27", x.cut(0, 1, 3, 1), 3);
        Calls.due("27", Calls.read(x, 1), "bcd");
        Calls.due("27 to the end", x.cut(0, 6, 0, 1), 0);
        Calls.due("27 all", x.cut(0, 0, 6, 1), 6);
        Calls.due("27", x.cut(0, 3, 4, 1), NONE);
        Calls.due("27", x.cut(0, 7, 0, 1), NONE);
        Calls.due("27", x.cut(0, -1, 1, 1), NONE);
        Calls.due("27", x.cut(0, 1, -1, 1), NONE);
        Calls.due("27", x.cut(0, MAX, MAX, 1), NONE);
        Calls.due("27", x.cut(0, 1, MAX, 1), NONE);
        Calls.due("27", x.cut(0, MIN, MIN, 1), NONE);
        Calls.due("27", x.cut(8, 0, 0, 1), NONE);
        Calls.due("27", x.cut(0, 0, 0, -1), NONE);
        Calls.due("27 stays", Calls.read(x, 1), "abcdef");
        Calls.due("27 into itself", x.cut(0, 4, 2, 0), 2);
        Calls.due("27 into itself", Calls.read(x, 0), "ef");
    }

    private static void look() {
        PutBack x = with("a = copy [a]", "b = copy [b]");
        x.feed(1, 2, 3, 4, 5);
        x.end(7);
        Calls.due("28", x.look(0), 2);
        Calls.due("28", x.look(1), 7);
        Calls.due("28", x.look(2), NONE);
        Calls.due("28", x.look(5), NONE);
        Calls.due("28", x.look(-1), NONE);
        Calls.due("28", x.look(MIN), NONE);
        Calls.say(x, 0, "b");
        x.open(1, 0);
        Calls.due("28", x.look(2), 1);
        x.edit(0, 0, 1, 0);
        x.edit(0, 0, 0, 0);
        x.edit(9, 0, 0, 0);
        Calls.due("28", x.look(3), 1);
        Calls.due("28", x.look(4), 2);
    }
}

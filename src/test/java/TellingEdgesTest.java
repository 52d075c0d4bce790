/**
 * What is told on the tape: each case at an edge that promises 1 to 7 and the document's terms (the tape, SYMBOLS, TEXT,
 * the form of a DEF, faults 1 to 3) name, and the one right beside it.
 */
public final class TellingEdgesTest {
    private static final int NONE = PutBack.NONE;
    private static final int MAX = Integer.MAX_VALUE;
    private static final int MIN = Integer.MIN_VALUE;
    private static final String SYMBOLS = " ,-/0123456789:;abcdefghijklmnopqrstuvwxyz";
    private static final String LETTERS = "abcdefghijklmnopqrstuvwxyz";
    private static final String[] OWN = {"then", "copy", "key", "del", "ins", "swap", "dict"};

    private TellingEdgesTest() {
    }

    public static void main(String[] args) {
        newObject();
        fed();
        fedByBytes();
        ended();
        symbols();
        symbolsInTheirOrder();
        texts();
        slots();
        tapeOfDefinition();
        separators();
        definitionForm();
        basicForms();
        partForms();
        unitForms();
        ranges();
        quoted();
        names();
        namesTold();
        opened();
        openedOfAllKinds();
        positionsOfUnits();
        positionsOfLenses();
        positionsAtTheirPlace();
        ninthLens();
        Calls.finish("TellingEdgesTest");
    }

    private static String a(int times) {
        return "a".repeat(times);
    }

    /** Promise 1: no lenses. */
    private static void newObject() {
        PutBack x = new PutBack();
        Calls.due("1 lenses", x.look(0), 0);
        Calls.due("1 tape", x.look(1), 0);
        Calls.due("1 open", x.look(2), NONE);
        Calls.due("1 undone", x.look(3), 0);
        Calls.due("1 refused", x.look(4), 0);
        Calls.due("1 fault", x.fault(0), 0);
        Calls.due("1 place", x.fault(1), NONE);
        Calls.due("1 shown by", x.fault(2), NONE);
        for (int slot = 0; slot < 8; slot++) {
            Calls.due("1 slot " + slot, x.symbol(slot, NONE), 0);
            Calls.due("1 slot " + slot, x.symbol(slot, 0), NONE);
        }
        for (int lens = -1; lens <= 8; lens++) {
            Calls.due("1 lens " + lens, x.set(lens, 0, 0), NONE);
            Calls.due("1 lens " + lens, x.fits(lens, 0, 0), NONE);
            Calls.due("1 lens " + lens, x.many(lens, 0, 0), NONE);
        }
        Calls.due("1 what an empty tape tells", x.lens(), NONE);
        Calls.due("1 what an empty tape tells", x.fault(0), 1);
        Calls.due("1 what an empty tape tells", x.fault(1), 0);
    }

    /** Promise 2: NONE, and none come, if there would be more than 600. */
    private static void fed() {
        for (int at = 560; at <= 600; at++) {
            PutBack x = new PutBack();
            for (int i = 1; i <= 30; i++) {
                Calls.due("2 feed", x.feed(0x61616161, 0x61616161, 0x61616161, 0x61616161, 0x61616161), 20 * i);
            }
            Calls.due("2 end", x.end(at), true);
            boolean fits = at <= 580;
            Calls.due("2 feed at " + at, x.feed(0, 0, 0, 0, 0), fits ? at + 20 : NONE);
            Calls.due("2 none come at " + at, x.look(1), fits ? at + 20 : at);
            // What was refused has not changed the bytes that are there.
            Calls.due("2 the rest", x.end(60), true);
            Calls.due("2 the rest", x.text(0), 60);
        }
        PutBack x = new PutBack();
        x.feed(0, 0, 0, 0, 0);
        Calls.due("2 end", x.end(0), true);
        Calls.due("2 behind the end", x.feed(0x61620000, 0, 0, 0, 0), 20);
        Calls.due("2 end", x.end(2), true);
        Calls.due("2 text", x.text(0), 2);
        Calls.due("2 text", Calls.read(x, 0), "ab");
    }

    /** Promise 2: four of each number, the highest first. */
    private static void fedByBytes() {
        String twenty = "abcdefghij0123456789";
        PutBack x = new PutBack();
        x.feed(Calls.four(twenty, 0), Calls.four(twenty, 4), Calls.four(twenty, 8), Calls.four(twenty, 12), Calls.four(twenty, 16));
        Calls.due("2 text", x.text(0), 20);
        Calls.due("2 text", Calls.read(x, 0), twenty);
        int[] numbers = {0x61ffffff, 0x6162ffff, 0x616263ff, 0x61626364, MIN, MAX, -1};
        int[] good = {1, 2, 3, 4, 0, 0, 0};
        for (int i = 0; i < numbers.length; i++) {
            for (int many = 0; many <= 4; many++) {
                x.feed(numbers[i], 0, 0, 0, 0);
                x.end(many);
                Calls.due("2 bytes " + i + " " + many, x.text(1), many <= good[i] ? many : NONE);
            }
        }
    }

    /** Promise 3: false if it has not so many, or n is below 0. */
    private static void ended() {
        PutBack x = new PutBack();
        for (int length : new int[] {0, 20, 600}) {
            x.end(0);
            for (int i = 0; i < length; i += 20) {
                x.feed(0x61616161, 0x61616161, 0x61616161, 0x61616161, 0x61616161);
            }
            for (int n : new int[] {MIN, -600, -1, length + 1, length + 20, 601, MAX}) {
                if (n < 0 || n > length) {
                    Calls.due("3 end " + n, x.end(n), false);
                    Calls.due("3 all stays", x.look(1), length);
                }
            }
            Calls.due("3 all", x.end(length), true);
            Calls.due("3 all", x.look(1), length);
        }
        for (int n = 600; n >= 0; n -= 60) {
            Calls.due("3 end " + n, x.end(n), true);
            Calls.due("3 look", x.look(1), n);
            Calls.due("3 one more", x.end(n + 1), false);
            Calls.due("3 look", x.look(1), n);
        }
    }

    /** Each byte as a text, within a QUOTED, within [ ], behind a definition and within it. */
    private static void symbols() {
        for (int b = 0; b < 256; b++) {
            boolean is = SYMBOLS.indexOf(b) >= 0;
            char c = (char) b;
            PutBack x = new PutBack();
            Calls.say(x, 0, "zz");
            Calls.due("6 byte " + b, Calls.say(x, 0, "" + c), is ? 1 : NONE);
            Calls.due("6 byte " + b, x.symbol(0, 0), is ? b : 'z');
            Calls.due("6 byte " + b, Calls.say(x, 0, "a" + c + "a"), is ? 3 : NONE);
            byteWithin(x, c, is);
            byteBehind(c);
            byteBetween(c);
        }
    }

    private static void byteWithin(PutBack x, char c, boolean is) {
        if (is) {
            Told.taken("a=copy\"" + c + "\"");
            Told.taken("a=del[ -z]\"" + c + "\"");
        } else {
            Told.refused(x, "a=copy\"" + c + "\"", 1, c == '"' ? 8 : 7, NONE);
        }
        if (is && c != '-') {
            Told.taken("a=copy[" + c + "]");
            Told.taken("a=copy[" + c + "-" + c + "]");
        } else {
            Told.refused(x, "a=copy[" + c + "]", 1, 7, NONE);
            Told.refused(x, "a=copy[ -" + c + "]", 1, 9, NONE);
        }
    }

    private static void byteBehind(char c) {
        if (" \n*+?".indexOf(c) >= 0) {
            Told.taken("a=copy[a]" + c);
        } else {
            Told.cant("a=copy[a]" + c, ".|".indexOf(c) >= 0 ? 10 : 9);
        }
    }

    private static void byteBetween(char c) {
        if (" \n".indexOf(c) >= 0) {
            Told.taken("a" + c + "=" + c + "copy" + c + "[a]" + c);
        } else if (LETTERS.indexOf(c) >= 0) {
            Told.refused("a=copy" + c + "[a]", 2, 2, NONE);
        } else {
            Told.cant("a=copy" + c + "[a]", "\"[".indexOf(c) >= 0 ? 7 : c == '(' ? 10 : 6);
        }
    }

    private static void symbolsInTheirOrder() {
        PutBack x = Calls.with("a = copy [ -z]");
        Calls.due("how many", x.many(0, 0, 1), 42);
        Calls.due("how many", x.goesOn(0, 0, 0, NONE), 42);
        for (int i = 0; i < 42; i++) {
            Calls.due("13 symbol " + i, x.nth(0, 0, i, 1), 1);
            Calls.due("13 symbol " + i, x.symbol(1, 0), SYMBOLS.charAt(i));
            Calls.due("16 symbol " + i, x.goesOn(0, 0, 0, i), SYMBOLS.charAt(i));
        }
        Calls.due("13 no more", x.nth(0, 0, 42, 1), NONE);
        Calls.due("16 no more", x.goesOn(0, 0, 0, 42), NONE);
    }

    /** A TEXT: up to 60 of them; the empty one is one. */
    private static void texts() {
        for (int length : new int[] {0, 1, 59, 60, 61, 62, 80, 599, 600}) {
            PutBack x = new PutBack();
            Calls.say(x, 0, "stays");
            Calls.due("6 of " + length, Calls.say(x, 0, a(length)), length <= 60 ? length : NONE);
            Calls.due("6 of " + length, Calls.read(x, 0), length <= 60 ? a(length) : "stays");
            Calls.due("6 tape", x.look(1), 0);
            for (int i : new int[] {MIN, -2, length, length + 1, 60, MAX}) {
                if (length <= 60) {
                    Calls.due("7 symbol " + i, x.symbol(0, i), NONE);
                }
            }
        }
        for (int at : new int[] {0, 30, 59}) {
            PutBack x = new PutBack();
            Calls.say(x, 0, "stays");
            Calls.due("6 no symbol at " + at, Calls.say(x, 0, a(at) + "A" + a(59 - at)), NONE);
            Calls.due("6 stays", Calls.read(x, 0), "stays");
        }
        PutBack x = new PutBack();
        Calls.say(x, 0, a(60));
        Calls.due("7 the last one", x.symbol(0, 59), 'a');
        Calls.due("7 one more", x.symbol(0, 60), NONE);
        Calls.due("6 shorter than before", Calls.say(x, 0, "b"), 1);
        Calls.due("7 behind the end", x.symbol(0, 1), NONE);
    }

    /** SLOTS 0 .. 7. */
    private static void slots() {
        PutBack x = new PutBack();
        for (int slot = 0; slot < 8; slot++) {
            Calls.due("6 slot " + slot, Calls.say(x, slot, a(slot)), slot);
        }
        for (int slot = 0; slot < 8; slot++) {
            Calls.due("7 slot " + slot, x.symbol(slot, NONE), slot);
        }
        for (int slot : new int[] {MIN, -2, -1, 8, 9, MAX}) {
            Calls.tape(x, "b");
            Calls.stays(x, "6 slot " + slot, Calls.TAPE, () -> x.text(slot));
            Calls.due("6 tape", x.look(1), 0);
            Calls.due("7 slot " + slot, x.symbol(slot, NONE), NONE);
            Calls.due("7 slot " + slot, x.symbol(slot, 0), NONE);
        }
    }

    /** THE TAPE has 600 bytes: a definition may have as many. */
    private static void tapeOfDefinition() {
        Told.taken("a=" + "(".repeat(12) + "copy[a" + " ".repeat(567) + "]" + ")".repeat(12));
        Told.taken(" ".repeat(592) + "a=ins\"\"");
        Told.taken("a=ins\"\"" + "\n".repeat(593));
        Told.cant("a=ins\"\"" + "\n".repeat(592) + "!", 599);
        Told.cant("a=ins\"" + " ".repeat(20), 26);
        Told.cant("a=copy[" + "a".repeat(593), 600);
        Told.cant("a=copy(" + "\"\"".repeat(296), 599);
        Told.taken("a=copy(" + "\"\"".repeat(296) + ")");
        Told.taken("a=" + "ins\"\".".repeat(98) + "ins\"\"");
        PutBack x = new PutBack();
        for (int i = 0; i < 30; i++) {
            x.feed(0, 0, 0, 0, 0);
        }
        Calls.due("4 600 bytes of 0", x.lens(), NONE);
        Calls.due("4 600 bytes of 0", x.fault(1), 0);
        Calls.due("4 tape", x.look(1), 0);
        Calls.due("4 an empty tape", x.lens(), NONE);
        Calls.due("4 an empty tape", x.fault(1), 0);
    }

    /** Between tokens blanks and 10, as many as there are, and none; not within a token. */
    private static void separators() {
        Told.taken("a=swap(copy[a],key\"b\").del[c]*\"c\"|ins\"d\"");
        Told.taken("  a\n\n=\n swap \n( copy [a] \n , key \"b\"\n ) . del [c] \n * \"c\" | ins \n \"d\" \n");
        Told.taken("a=copy([a]\n[b]\n|\n[c])");
        for (char c : new char[] {' ', '\n'}) {
            Told.refused("a=co" + c + "py[a]", 2, 2, NONE);
            Told.cant("b a=copy[a]".replace(' ', c), 2);
            Told.refused("a=no" + c + "pe", 2, 2, NONE);
        }
        for (char c : new char[] {'\t', '\r', '\u000b', '\f', '\u0000', '\u0085', '\u00a0', '\u001f'}) {
            Told.cant("a=" + c + "copy[a]", 2);
            Told.cant(c + "a=copy[a]", 0);
        }
        PutBack x = Calls.with("a=copy[ ]", "b=copy\"  \"", "c=copy[ -,]");
        Calls.due("a blank within [ ]", x.set(0, 0, 0), 1);
        Calls.due("blanks within a QUOTED", x.set(1, 0, 0), 2);
        Calls.due("blank to ,", x.many(2, 0, 1), 2);
        Told.cant("a=copy[\n]", 7);
        Told.cant("a=copy[a-\nb]", 9);
        Told.cant("a=copy[a\n-b]", 8);
        Told.cant("a=copy\"\n\"", 7);
        // A blank within [ ] is a SYMBOL: "a", " " and what lies from that to "b"; but no "-" else.
        Calls.due("blanks within [ ]", Calls.define(x, "d=copy[a -b]"), 3);
        Calls.due("blanks within [ ]", x.many(3, 0, 1), 18);
        Told.cant("a=copy[a- ]", 9);
    }

    /** DEF: NAME "=" TOP. */
    private static void definitionForm() {
        Told.cant("a", 1);
        Told.cant("a ", 2);
        Told.cant("=", 0);
        Told.cant("=copy[a]", 0);
        Told.cant("a==copy[a]", 2);
        Told.cant("a copy[a]", 2);
        Told.cant("\"a\"=copy[a]", 0);
        Told.cant("a=", 2);
        Told.cant("a= ", 3);
        Told.cant("a=copy[a]=", 9);
        Told.cant("a=copy[a],", 9);
        Told.cant("a=copy[a])", 9);
        Told.cant("a=copy[a](", 9);
        Told.cant("a=copy[a][a]", 9);
        Told.cant("a=copy[a]\"a\"", 9);
        Told.cant("a=copy[a]a", 9);
        Told.cant("a=copy[a]copy[a]", 9);
        // TOP: LENS { "then" LENS }, at the outermost alone.
        Told.taken("a=copy[a]then copy[a]then copy[a]");
        Told.cant("a=then copy[a]", 2);
        Told.cant("a=copy[a]then", 13);
        Told.cant("a=copy[a]then then copy[a]", 14);
        Told.cant("a=copy[a]then.copy[a]", 13);
        Told.cant("a=(copy[a]then copy[a])", 10);
        Told.cant("a=swap(copy[a]then copy[a],copy[b])", 14);
        Told.cant("a=swap(copy[a],copy[b]then copy[b])", 22);
        Told.cant("a=copy(\"a\"then\"a\")", 10);
        Told.taken("a=(copy[a])then(copy[a])");
        // LENS: ROW { "|" ROW }. ROW: PART { "." PART }.
        Told.cant("a=|copy[a]", 2);
        Told.cant("a=copy[a]|", 10);
        Told.cant("a=copy[a]||copy[b]", 10);
        Told.cant("a=.copy[a]", 2);
        Told.cant("a=copy[a].", 10);
        Told.cant("a=copy[a]..copy[b]", 10);
        Told.cant("a=copy[a].|copy[b]", 10);
        Told.cant("a=copy[a]|.copy[b]", 10);
    }

    /** BASIC: each with all that it needs, and without one thing of it. */
    private static void basicForms() {
        for (String word : new String[] {"copy", "key"}) {
            Told.taken("a=" + word + "[a]");
            Told.cant("a=" + word, 2 + word.length());
            Told.cant("a=" + word + ".", 2 + word.length());
            Told.cant("a=" + word + " b", 3 + word.length());
            Told.cant("a=" + word + " copy[a]", 3 + word.length());
        }
        Told.taken("a=del[a]\"a\"");
        Told.cant("a=del", 5);
        Told.cant("a=del\"a\"", 8);
        Told.cant("a=del[a]", 8);
        Told.cant("a=del[a].", 8);
        Told.cant("a=del[a](\"a\")", 8);
        Told.cant("a=del b\"a\"", 6);
        Told.taken("a=ins\"a\"");
        Told.cant("a=ins", 5);
        Told.cant("a=ins(\"a\")", 5);
        Told.cant("a=ins[a]", 5);
        Told.cant("a=ins b", 6);
        Told.taken("a=swap(copy[a],copy[b])");
        Told.cant("a=swap", 6);
        Told.cant("a=swap(", 7);
        Told.cant("a=swap()", 7);
        Told.cant("a=swap(,copy[b])", 7);
        Told.cant("a=swap(copy[a])", 14);
        Told.cant("a=swap(copy[a],)", 15);
        Told.cant("a=swap(copy[a],copy[b]", 22);
        Told.cant("a=swap(copy[a],copy[b],copy[c])", 22);
        Told.cant("a=swap copy[a],copy[b]", 7);
        Told.taken("a=dict key[a]");
        Told.taken("a=dict(key[a])");
        Told.taken("a=dict swap(key[a],copy[b])");
        Told.cant("a=dict", 6);
        Told.cant("a=dict*", 6);
        Told.cant("a=dict.", 6);
        Told.cant("a=dict[a]", 6);
        Told.taken("a=(copy[a])");
        Told.cant("a=()", 3);
        Told.cant("a=(", 3);
        Told.cant("a=(copy[a]", 10);
        Told.cant("a=(copy[a],copy[b])", 10);
        Told.cant("a=\"a\"", 2);
        Told.cant("a=[a]", 2);
        Told.cant("a=*", 2);
    }

    /** PART: BASIC [ "*" ]: one at most, and no other sign. */
    private static void partForms() {
        Told.taken("a=(copy[a])*");
        Told.cant("a=(copy[a])**", 12);
        Told.cant("a=(copy[a])+", 11);
        Told.cant("a=(copy[a])?", 11);
        Told.taken("a=(copy[a])*.copy[b]");
        Told.taken("a=ins\"a\".copy[b]*");
        Told.refused("a=ins\"a\"*", 8, 8, 0);
        Told.taken("a=swap(copy[a],copy[b])*");
        Told.cant("a=swap(copy[a],copy[b])+", 23);
        // Behind a UNIT the first sign is the UNIT's, the second one the PART's.
        Told.taken("a=copy[a]*");
        Told.refused("a=copy[a]**", 8, 10, 'a');
        Told.refused("a=copy[a]+*", 8, 10, 'a');
        Told.refused("a=copy[a]?*", 8, 10, 'a');
        Told.cant("a=copy[a]*+", 10);
        Told.cant("a=copy[a]*?", 10);
        Told.cant("a=copy[a]++", 10);
        Told.cant("a=copy[a]??", 10);
        // Behind the QUOTED of del there is no UNIT: its sign is the PART's.
        Told.refused("a=del[a]\"a\"*", 9, 11, 0);
        Told.cant("a=del[a]\"a\"+", 11);
        // A dict's * repeats the dict.
        Told.refused("a=dict(key[a])*", 8, 14, 'a');
        Told.taken("a=copy[b].dict(key[a])");
        PutBack x = Calls.with("b=copy[a]");
        Calls.due("a NAME's *", Calls.define(x, "a=b*"), 1);
        Told.refused(x, "c=b**", 1, 4, NONE);
        Told.refused(x, "c=b+", 1, 3, NONE);
    }

    /** UNIT: ATOM [ "*" | "+" | "?" ]; ATOM: QUOTED, [ ], ( SET ); SET: CHAIN { "|" CHAIN }; CHAIN: UNIT { UNIT }. */
    private static void unitForms() {
        for (String sign : new String[] {"", "*", "+", "?"}) {
            Told.taken("a=copy[a]" + sign);
            Told.taken("a=copy\"ab\"" + sign);
            Told.taken("a=copy([a])" + sign);
            Told.taken("a=copy([a]" + sign + ")");
            Told.taken("a=copy([a]" + sign + "\"b\"" + sign + "([c]" + sign + "))");
            Told.taken("a=del[a]" + sign + "\"a\"");
        }
        for (String signs : new String[] {"**", "*+", "*?", "++", "+*", "+?", "??", "?*", "?+"}) {
            Told.cant("a=copy([a]" + signs + ")", 11);
        }
        Told.cant("a=copy*", 6);
        Told.cant("a=copy(*)", 7);
        Told.cant("a=copy()", 7);
        Told.cant("a=copy(|[a])", 7);
        Told.cant("a=copy([a]|)", 11);
        Told.cant("a=copy([a]||[b])", 11);
        Told.cant("a=copy([a]|*)", 11);
        Told.cant("a=copy([a].[b])", 10);
        Told.cant("a=copy([a],[b])", 10);
        Told.cant("a=copy([a]b)", 10);
        Told.cant("a=copy([a]", 10);
        Told.cant("a=copy([a]|[b]", 14);
        Told.cant("a=copy((([a]))", 14);
        Told.cant("a=copy(copy[a])", 7);
        Told.taken("a=copy([a][b]|[c]([d]|[e])*)");
    }

    /** RANGE: SYMBOL [ "-" SYMBOL ]. */
    private static void ranges() {
        Told.cant("a=copy[]", 7);
        Told.cant("a=copy[", 7);
        Told.cant("a=copy[a", 8);
        Told.cant("a=copy[a-", 9);
        Told.cant("a=copy[a-b", 10);
        Told.cant("a=copy[a-]", 9);
        Told.cant("a=copy[-]", 7);
        Told.cant("a=copy[-a]", 7);
        Told.cant("a=copy[--a]", 7);
        Told.cant("a=copy[a--]", 9);
        Told.cant("a=copy[,--]", 9);
        Told.cant("a=copy[--/]", 7);
        Told.cant("a=copy[a-c-e]", 10);
        Told.cant("a=copy[ab-]", 10);
        Told.cant("a=copy[b-a]", 9);
        Told.cant("a=copy[a-z-]", 10);
        Told.cant("a=copy[a-;]", 9);
        Told.cant("a=copy[0-/]", 9);
        Told.cant("a=copy[[a]]", 7);
        Told.cant("a=copy[a]]", 9);
        Told.cant("a=copy[a-B]", 9);
        Told.cant("a=copy[a-\"]", 9);
        String[] good = {"a", "a-a", "a-b", "b-bb", "a-caa-b", ",-/", ",,-/", "9-:", ";-a", " -z", "0-9a-z", "a-z0-9", "aab-ca"};
        int[] many = {1, 1, 2, 1, 3, 3, 3, 2, 2, 42, 36, 36, 3};
        for (int i = 0; i < good.length; i++) {
            PutBack x = Calls.with("a=copy[" + good[i] + "]");
            Calls.due("[" + good[i] + "]", x.many(0, 0, 1), many[i]);
            Calls.due("[" + good[i] + "]", x.set(0, 0, 0), 1);
        }
        PutBack x = Calls.with("a=copy[,-/]");
        for (int i = 0; i < 3; i++) {
            Calls.due("a - from one to the other", x.goesOn(0, 0, 0, i), ",-/".charAt(i));
        }
    }

    /** QUOTED: " and up to 20 SYMBOLS and ". The 21st can't stand there. */
    private static void quoted() {
        String[] heads = {"a=copy\"", "a=ins\"", "a=key(\"", "a=del[a]*\"", "a=del\""};
        String[] ends = {"\"", "\"", "\")", "\"", "\"\"\""};
        for (int i = 0; i < heads.length; i++) {
            for (int length = 0; length <= 20; length++) {
                String told = heads[i] + a(length) + ends[i];
                if (i < 4 || length == 0) {
                    Told.taken(told);
                } else {
                    Told.refused(told, 10, heads[i].length() + length + 1, NONE);
                }
                Told.cant(heads[i] + a(length), heads[i].length() + length);
                Told.cant(heads[i] + a(length) + "A" + ends[i], heads[i].length() + length);
            }
            Told.cant(heads[i] + a(21) + ends[i], heads[i].length() + 20);
            Told.cant(heads[i] + a(21), heads[i].length() + 20);
            Told.cant(heads[i] + a(300), heads[i].length() + 20);
            Told.cant(heads[i] + a(20) + "\n" + ends[i], heads[i].length() + 20);
        }
        for (int length = 0; length <= 20; length++) {
            PutBack x = Calls.with("a=copy\"" + a(length) + "\"");
            Calls.due("of " + length, x.set(0, 0, 0), length);
            Calls.due("of " + length, x.set(0, 0, 1), length == 0 ? 0 : 1);
            Calls.due("of " + length, x.set(0, 0, 2), length == 0 ? 0 : 1);
            Calls.due("of " + length, x.set(0, 0, 3), length == 0 ? 1 : 0);
        }
    }

    /** NAME: 1 to 8 letters that stand together, but seven words. */
    private static void names() {
        for (int length = 1; length <= 12; length++) {
            String name = "zyxwvutsrqpo".substring(0, length);
            PutBack x = new PutBack();
            if (length <= 8) {
                Calls.due("name of " + length, Calls.define(x, name + "=copy[a]"), 0);
                Calls.due("name of " + length, Calls.define(x, "b=" + name), 1);
                Told.refused(x, "c=" + name + "o", length < 8 ? 2 : 1, 2, NONE);
                Told.refused(x, "c=ins\"\"." + name.substring(1), length > 1 ? 2 : 1, 8, NONE);
            } else {
                Told.refused(x, name + "=copy[a]", 1, 0, NONE);
                Told.refused(x, "  " + name + "=copy[a]", 1, 2, NONE);
                Told.refused(x, "b=" + name, 1, 2, NONE);
                Told.refused(x, "b=ins\"\". " + name, 1, 9, NONE);
            }
        }
        for (String own : OWN) {
            Told.cant(own + "=copy[a]", 0);
            Told.taken(own + "x=copy[a]");
            Told.taken("x" + own + "=copy[a]");
            Told.taken(own.substring(1) + "=copy[a]");
            Told.taken(own.substring(0, own.length() - 1) + "=copy[a]");
            Told.refused("a=" + own + "x", 2, 2, NONE);
            Told.refused("a=" + own + own, 2, 2, NONE);
            Told.cant("a=" + own + "abcdef", 2);
            // Another letter anywhere makes it a NAME.
            for (int i = 0; i < own.length(); i++) {
                String other = own.substring(0, i) + "q" + own.substring(i + 1);
                Told.taken(other + "=copy[a]");
                Told.refused("a=" + other + "[a]", 2, 2, NONE);
            }
        }
        for (char c : new char[] {'`', '{', 'A', 'Z', '0', '9', '_', '-'}) {
            Told.cant(c + "=copy[a]", 0);
            Told.cant("a" + c + "=copy[a]", 1);
            Told.cant("b=" + c, 2);
        }
        Told.cant("a b=copy[a]", 2);
        Told.cant("a\nb=copy[a]", 2);
    }

    /** 2: a NAME that isn't told (at it), that is told (of the DEF). */
    private static void namesTold() {
        PutBack x = Calls.with("b=copy[a]");
        Told.refused(x, "b=copy[b]", 2, 0, NONE);
        Told.refused(x, "  b=copy[b]", 2, 2, NONE);
        Told.refused(x, "b", 2, 0, NONE);
        Told.refused(x, "b!", 2, 0, NONE);
        Told.refused(x, "c=d", 2, 2, NONE);
        Told.refused(x, "c=c", 2, 2, NONE);
        Told.refused(x, "c=b.c", 2, 4, NONE);
        Told.refused(x, "c=b then d", 2, 9, NONE);
        Told.refused(x, "c=dict d", 2, 7, NONE);
        Told.refused(x, "c=swap(b,d)", 2, 9, NONE);
        Told.refused(x, "c=bb", 2, 2, NONE);
        // What was refused isn't told.
        Told.refused(x, "c=copy[a", 1, 8, NONE);
        Told.refused(x, "d=c", 2, 2, NONE);
        Calls.due("4 c now", Calls.define(x, "c=b"), 1);
        Calls.due("4 d now", Calls.define(x, "d=c"), 2);
        Told.refused(x, "c=b", 2, 0, NONE);
    }

    /** 3: a 13th "(" that is open. */
    private static void opened() {
        for (int many = 11; many <= 14; many++) {
            String begin = "(".repeat(many);
            String end = ")".repeat(many);
            String[] tellings = {"a=" + begin + "copy[a]" + end, "a=copy" + begin + "[a]" + end,
                "a=" + begin.substring(1) + "copy([a])" + end.substring(1)};
            int[] places = {14, 18, 18};
            for (int i = 0; i < tellings.length; i++) {
                if (many <= 12) {
                    Told.taken(tellings[i]);
                } else {
                    Told.refused(tellings[i], 3, many == 14 && i == 2 ? 14 : places[i], NONE);
                }
            }
            // Without its ")" it is met all the same.
            if (many > 12) {
                Told.refused("a=" + begin, 3, 14, NONE);
            } else {
                Told.cant("a=" + begin, 2 + many);
            }
        }
        // Of one place the least: where a "(" can't stand, that is it.
        Told.cant("a=" + "(".repeat(12) + "copy[a](", 21);
        Told.cant("a=" + "(".repeat(12) + "ins(", 17);
        Told.cant("a=" + "(".repeat(12) + "swap)", 18);
        Told.refused("a=" + "(".repeat(12) + "swap(", 3, 18, NONE);
        Told.refused("a=" + "(".repeat(12) + "dict(", 3, 18, NONE);
        Told.refused("a=" + "(".repeat(12) + "del(", 3, 17, NONE);
    }

    /** Each "(" counts while it is open, not behind its ")". */
    private static void openedOfAllKinds() {
        String swaps = "swap(ins\"\",".repeat(11);
        Told.taken("a=" + swaps + "swap(copy[a],copy[b])" + ")".repeat(11));
        Told.refused("a=" + swaps + "swap(copy([a]),copy[b])" + ")".repeat(11), 3, 2 + swaps.length() + 9, NONE);
        Told.taken("a=" + swaps + "copy([a])" + ")".repeat(11));
        Told.taken("a=" + "(".repeat(11) + "copy([a]).copy([b]).(copy[c])" + ")".repeat(11));
        Told.taken("a=" + "(".repeat(11) + "copy(\"a\").swap(copy[b],copy[c])|(copy[d])" + ")".repeat(11));
        Told.taken("a=" + "(".repeat(12) + "copy[a]" + ")".repeat(12) + "." + "(".repeat(12) + "copy[b]" + ")".repeat(12));
        Told.taken("a=copy" + "(".repeat(12) + "[a]" + ")".repeat(12) + ".del" + "(".repeat(12) + "[b]" + ")".repeat(12) + "\"b\"");
        Told.taken("a=" + "(ins\"\").".repeat(60) + "(ins\"\")");
        PutBack x = Calls.with("b=" + "(".repeat(12) + "copy[a]" + ")".repeat(12));
        Calls.due("a NAME opens none", Calls.define(x, "a=" + "(".repeat(12) + "b" + ")".repeat(12)), 1);
    }

    private static String chain(int positions) {
        StringBuilder made = new StringBuilder();
        for (int left = positions; left > 0; left -= 20) {
            made.append('"').append(a(Math.min(20, left))).append('"');
        }
        return made.toString();
    }

    /** 3: a SET of more than 60 POSITIONS, within a UNIT at the later UNIT of a CHAIN, at |. */
    private static void positionsOfUnits() {
        for (int many = 58; many <= 62; many++) {
            String told = chain(many - 1);
            if (many <= 60) {
                PutBack x = Calls.with("a=copy(" + told + "[b])", "b=copy(" + told + "|[b])", "c=copy(" + told + "\"b\")*",
                    "d=copy([b]" + told + ")?", "e=del(" + told + "[b])?\"\"");
                for (int lens = 0; lens < 4; lens++) {
                    Calls.due("positions of " + lens, x.set(lens, 0, 0), many);
                    Calls.due("positions of " + lens, x.set(lens, 1, 0), many);
                }
                Calls.due("positions of del", x.set(4, 0, 0), many);
                Calls.due("positions of del", x.set(4, 1, 0), 0);
            } else {
                // The UNIT by which it becomes more than 60: the fourth QUOTED has only one or two of them.
                int over = 7 + (many == 61 ? told.length() : 66);
                Told.refused("a=copy(" + told + "[b])", 3, over, NONE);
                Told.refused("a=copy(" + told + " (\"b\"|[c]))", 3, many == 61 ? over + 1 : over, NONE);
                Told.refused("a=copy([b]" + told + ")", 3, 7 + 3 + 44, NONE);
                Told.refused("a=copy([b]|" + told + ")", 3, many == 61 ? 10 : 7 + 4 + 66, NONE);
            }
        }
        Told.refused("a=copy(" + chain(30) + "|[b]" + chain(30) + ")", 3, 7 + 34, NONE);
        Told.taken("a=copy(" + chain(30) + "|[b]" + chain(29) + ")");
        Told.taken("a=copy(" + "[a]".repeat(60) + ")");
        Told.refused("a=copy(" + "[a]".repeat(61) + ")", 3, 7 + 180, NONE);
        Told.taken("a=copy(" + "[a]".repeat(60) + "\"\"" + ")");
        Told.taken("a=copy(\"\"|" + chain(60) + ")");
    }

    /** 3: at ., |, swap; each of S and V by itself. */
    private static void positionsOfLenses() {
        PutBack x = Calls.with("f=copy(" + chain(59) + ")", "s=copy(" + chain(60) + ")", "e=del" + "(" + chain(60) + ")?\"\"");
        Calls.due("60 by .", Calls.define(x, "a=f.copy[b]"), 3);
        Calls.due("60 by |", Calls.define(x, "b=f|copy[b]"), 4);
        Calls.due("60 by swap", Calls.define(x, "c=swap(f,copy[b])"), 5);
        Calls.due("60 by a NAME, by then", Calls.define(x, "d=s then s"), 6);
        for (int lens = 3; lens < 7; lens++) {
            Calls.due("60 of " + lens, x.set(lens, 0, 0), 60);
            Calls.due("60 of " + lens, x.set(lens, 1, 0), 60);
        }
        Told.refused(x, "i=s.copy[b]", 3, 3, NONE);
        Told.refused(x, "i=copy[b].s", 3, 9, NONE);
        Told.refused(x, "i=s|copy[b]", 3, 3, NONE);
        Told.refused(x, "i=copy[b]|s", 3, 9, NONE);
        Told.refused(x, "i=swap(s,copy[b])", 3, 2, NONE);
        Told.refused(x, "i=ins\"\".swap(copy[b],s)", 3, 8, NONE);
        Told.refused(x, "i=(ins\"\").(s.copy[b])", 3, 12, NONE);
        // Sources alone, views alone.
        Told.refused(x, "i=s.del[b]\"b\"", 3, 3, NONE);
        Told.refused(x, "i=s.ins\"b\"", 3, 3, NONE);
        Told.refused(x, "i=swap(s,del[b]\"b\")", 3, 2, NONE);
        Told.refused(x, "i=swap(ins\"b\",s)", 3, 2, NONE);
        Told.refused(x, "i=e|del[b]\"b\".ins\"a\"", 3, 3, NONE);
        Told.refused(x, "i=s|ins\"b\"", 3, 3, NONE);
        // Without positions of its own a part doesn't count.
        Calls.due("60 and none", Calls.define(x, "i=s.ins\"\".key\"\".del\"\"\"\""), 7);
        // The views are the same: they are those of the first.
        x = Calls.with("a=del[0]\"0\".ins" + chain(20) + ".ins" + chain(20) + ".ins" + chain(20));
        Calls.due("the same views", Calls.define(x, "b=a|del[1]\"1\".ins" + chain(20) + ".ins" + chain(20) + ".ins" + chain(20)), 1);
        Calls.due("the same views", x.set(1, 1, 0), 60);
        Calls.due("sources", x.set(1, 0, 0), 2);
        Told.refused(x, "c=a|del[1]\"1\".ins" + chain(20) + ".ins" + chain(20), 3, 3, NONE);
    }

    /** Of one place the least: 3 goes ahead of 4 to 9 and 13. */
    private static void positionsAtTheirPlace() {
        PutBack x = Calls.with("s=copy(" + chain(59) + "[a]*)", "t=copy(" + chain(58) + "[a]*)");
        Told.refused(x, "i=s.copy[a]", 3, 3, NONE);
        Told.refused(x, "i=t.copy[a]", 6, 3, 'a');
        Told.refused(x, "i=s|copy[a]", 3, 3, NONE);
        Told.refused(x, "i=t|copy[a]", 4, 3, 'a');
        Told.refused(x, "i=swap(s,copy[a])", 3, 2, NONE);
        Told.refused(x, "i=swap(t,copy[a])", 6, 2, 'a');
        Told.refused(x, "i=copy(" + chain(59) + "[a]*[a])", 3, 7 + 65 + 4, NONE);
        Told.refused(x, "i=copy(" + chain(58) + "[a]*[a])", 13, 7 + 64 + 4, 'a');
        Told.refused(x, "i=copy(" + chain(60) + "|[a])", 3, 7 + 66, NONE);
        Told.refused(x, "i=copy(" + chain(59) + "|[a])", 13, 7 + 65, 'a');
        Told.refused(x, "i=s.copy[a]!", 3, 3, NONE);
        Told.refused(x, "i=s.copy[a]then", 3, 3, NONE);
    }

    /** 3: a ninth lens (at its NAME). */
    private static void ninthLens() {
        PutBack x = new PutBack();
        for (int i = 0; i < 8; i++) {
            Calls.due("4 lens " + i, Calls.define(x, LETTERS.charAt(i) + "=copy[a-" + LETTERS.charAt(i) + "]"), i);
            Calls.due("28 lenses", x.look(0), i + 1);
            Calls.due("5 no fault", x.fault(0), 0);
        }
        Told.refused(x, "i=copy[a]", 3, 0, NONE);
        Told.refused(x, "\n i=copy[a]", 3, 2, NONE);
        Told.refused(x, "i", 3, 0, NONE);
        Told.refused(x, "i=copy[", 3, 0, NONE);
        // Of one place the least.
        Told.refused(x, "h=copy[a]", 2, 0, NONE);
        Told.refused(x, "copy=copy[a]", 1, 0, NONE);
        Told.refused(x, "iiiiiiiii=copy[a]", 1, 0, NONE);
        Told.refused(x, "", 1, 0, NONE);
        Told.refused(x, "!", 1, 0, NONE);
        for (int i = 0; i < 8; i++) {
            Calls.due("the lenses stay", x.many(i, 0, 1), i + 1);
        }
        Calls.due("no ninth", x.many(8, 0, 1), NONE);
    }
}

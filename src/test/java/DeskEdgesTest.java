/** What is open, and slots: each case at an edge that the document's third part and promises 21 to 28 name. */
public final class DeskEdgesTest {
    private static final int NONE = PutBack.NONE;
    private static final int MAX = Integer.MAX_VALUE;
    private static final int MIN = Integer.MIN_VALUE;

    private DeskEdgesTest() {
    }

    public static void main(String[] args) {
        nothingIsOpen();
        openOfSixty();
        openRefused();
        openAgain();
        editPlaces();
        editNumbers();
        editRefused();
        editOfSixty();
        editOtherOfSixty();
        editInTheMidst();
        editWithoutChange();
        undoOfEight();
        undoOfBothSides();
        undoRefused();
        undoAndOn();
        copies();
        movedOfTexts();
        movedWhen();
        movedOfOtherSide();
        joins();
        cuts();
        looks();
        looksOfRefused();
        calls();
        Calls.finish("DeskEdgesTest");
    }

    private static String many(String text, int times) {
        return text.repeat(times);
    }

    private static void both(PutBack x, String source, String view) {
        Calls.due("24 source", x.copy(0, 7), source.length());
        Calls.due("24 source", Calls.read(x, 7), source);
        Calls.due("24 view", x.copy(1, 7), view.length());
        Calls.due("24 view", Calls.read(x, 7), view);
    }

    private static void movedIs(PutBack x, int stayed, int went, int came) {
        Calls.due("25 stayed", x.moved(0), stayed);
        Calls.due("25 went", x.moved(1), went);
        Calls.due("25 came", x.moved(2), came);
    }

    private static PutBack opened(String definition, String source, int length) {
        PutBack x = Calls.with(definition);
        Calls.say(x, 0, source);
        Calls.due("21 open '" + source + "'", x.open(0, 0), length);
        return x;
    }

    /** Ahead of open(), and behind one that was refused. */
    private static void nothingIsOpen() {
        PutBack x = Calls.with("p=copy[a]*");
        Calls.say(x, 1, "b");
        for (int round = 0; round < 2; round++) {
            Calls.stays(x, "22", () -> x.edit(0, 0, 0, 0));
            Calls.stays(x, "22", () -> x.edit(1, 0, 0, 0));
            Calls.stays(x, "24", () -> x.copy(0, 2));
            Calls.stays(x, "24", () -> x.copy(1, 2));
            Calls.due("23", x.undo(), false);
            movedIs(x, NONE, NONE, NONE);
            Calls.due("28 open", x.look(2), NONE);
            Calls.due("28 undone", x.look(3), 0);
            Calls.due("28 refused", x.look(4), 0);
            Calls.due("21 refused", x.open(0, 1), NONE);
        }
    }

    /** Promise 21: NONE if the VIEW were longer than 60. */
    private static void openOfSixty() {
        PutBack x = Calls.with("p=copy[a]*.ins\"b\"", "q=copy[a]*", "r=del[a]*\"\"", "s=(copy[a].ins\"b\")*then(copy[a].del\"b\"\"b\")*");
        for (int length : new int[] {0, 1, 29, 30, 31, 58, 59, 60}) {
            Calls.say(x, 0, many("a", length));
            Calls.due("21 of " + length, x.open(0, 0), length < 60 ? length + 1 : NONE);
            Calls.due("21 of " + length, x.open(1, 0), length);
            Calls.due("21 of " + length, x.open(2, 0), 0);
            Calls.due("21 in the midst " + length, x.open(3, 0), length <= 30 ? length : NONE);
            Calls.due("21 lens", x.look(2), length <= 30 ? 3 : 2);
        }
    }

    /** All stays: what is open, what can be undone, what was refused, what moved. */
    private static void openRefused() {
        PutBack x = Calls.with("p=copy[a-c]*.ins\"--\"", "q=copy[x]");
        Calls.say(x, 0, "ab");
        Calls.say(x, 1, "c");
        Calls.say(x, 2, "ab--");
        Calls.say(x, 3, many("a", 59));
        Calls.due("21 open", x.open(0, 0), 4);
        Calls.due("22 edit", x.edit(0, 1, 0, 1), 5);
        Calls.due("22 refused", x.edit(1, 5, 0, 1), NONE);
        for (int round = 0; round < 2; round++) {
            Calls.stays(x, "21 no SOURCE", () -> x.open(0, 2));
            Calls.stays(x, "21 no SOURCE", () -> x.open(1, 0));
            Calls.stays(x, "21 a VIEW of 61", () -> x.open(0, 3));
            Wrong.lens(x, "21", n -> x.open(n, 0));
            Wrong.slot(x, "21", n -> x.open(0, n));
        }
        both(x, "acb", "acb--");
        movedIs(x, 1, 0, 1);
        Calls.due("23 undo", x.undo(), true);
        both(x, "ab", "ab--");
    }

    /** Nothing can be undone then. */
    private static void openAgain() {
        PutBack x = Calls.with("p=copy[a-c]*", "q=copy[a]*");
        Calls.say(x, 0, "a");
        for (int lens = 0; lens < 2; lens++) {
            Calls.due("21", x.open(lens, 0), 1);
            for (int i = 1; i <= 9; i++) {
                Calls.due("22", x.edit(1, 0, 0, 0), i + 1);
                Calls.due("22", x.edit(1, 99, 0, 0), NONE);
            }
            Calls.due("28", x.look(3), 8);
            Calls.due("28", x.look(4), 9);
            Calls.due("21 the same again", x.open(lens, 0), 1);
            Calls.due("28 lens", x.look(2), lens);
            Calls.due("28 nothing to undo", x.look(3), 0);
            Calls.due("28 none refused", x.look(4), 0);
            movedIs(x, NONE, NONE, NONE);
            Calls.due("23", x.undo(), false);
            both(x, "a", "a");
        }
        // The slot is a text of its own.
        Calls.say(x, 0, "b");
        both(x, "a", "a");
    }

    /** Promise 22: at each place, from ahead of the first SYMBOL to behind the last one, each number that goes. */
    private static void editPlaces() {
        for (int side = 0; side < 2; side++) {
            for (int at = -1; at <= 4; at++) {
                for (int gone = -1; gone <= 5; gone++) {
                    PutBack x = opened("p=copy[a-z]*", "abc", 3);
                    Calls.say(x, 1, "xy");
                    boolean good = at >= 0 && gone >= 0 && at + gone <= 3;
                    String want = good ? "abc".substring(0, at) + "xy" + "abc".substring(at + gone) : "abc";
                    Calls.due("22 at " + at + " gone " + gone, x.edit(side, at, gone, 1), good ? want.length() : NONE);
                    both(x, want, want);
                    Calls.due("28 kept", x.look(3), good ? 1 : 0);
                    Calls.due("28 refused", x.look(4), good ? 0 : 1);
                }
            }
        }
    }

    /** One can't be: a side, a place, a number, a SLOT. */
    private static void editNumbers() {
        PutBack x = opened("p=copy[a-z]*.del[0-9]\"0\"", "abc5", 3);
        Calls.say(x, 1, "x");
        for (int side : new int[] {MIN, -2, -1, 2, 3, MAX}) {
            Wrong.edit(x, "22 side " + side, () -> x.edit(side, 0, 0, 1));
        }
        for (int slot : new int[] {MIN, -2, -1, 8, 9, MAX}) {
            Wrong.edit(x, "22 slot " + slot, () -> x.edit(1, 0, 0, slot));
        }
        for (int at : new int[] {MIN, MIN + 1, -4, -1, 4, 5, 60, 61, MAX - 1, MAX}) {
            Wrong.edit(x, "22 at " + at, () -> x.edit(1, at, 0, 1));
            Wrong.edit(x, "22 at " + at, () -> x.edit(1, at, 1, 1));
            Wrong.edit(x, "22 at " + at, () -> x.edit(1, at, -at, 1));
            Wrong.edit(x, "22 at " + at, () -> x.edit(1, at, MAX, 1));
        }
        for (int gone : new int[] {MIN, MIN + 1, -3, -1, 3, 4, 60, MAX - 1, MAX}) {
            Wrong.edit(x, "22 gone " + gone, () -> x.edit(1, 1, gone, 1));
            Wrong.edit(x, "22 gone " + gone, () -> x.edit(0, 2, gone, 1));
        }
        Calls.due("22 all of the rest", x.edit(1, 1, 2, 1), 3);
        both(x, "ax5", "ax");
        Calls.due("22 behind the end", x.edit(1, 2, 0, 1), 4);
        both(x, "axx5", "axx");
    }

    /** It is refused, and nothing changes, if it would be no VIEW, no SOURCE. */
    private static void editRefused() {
        PutBack x = opened("p=(copy[a-c].del[0-9]\"0\".ins\"-\")*", "a1b2", 4);
        String[] comes = {"", "a", "a-", "b7", "7", "-", "--"};
        boolean[] asView = {true, false, true, false, false, false, false};
        boolean[] asSource = {true, false, false, true, false, false, false};
        for (int i = 0; i < comes.length; i++) {
            Calls.say(x, 1, comes[i]);
            int length = comes[i].length();
            if (asView[i]) {
                Calls.due("22 view '" + comes[i] + "'", x.edit(1, 2, 0, 1), 4 + length);
                Calls.due("23", x.undo(), true);
            } else {
                Wrong.edit(x, "22 view '" + comes[i] + "'", () -> x.edit(1, 2, 0, 1));
            }
            if (asSource[i]) {
                Calls.due("22 source '" + comes[i] + "'", x.edit(0, 2, 0, 1), 4 + length);
                Calls.due("23", x.undo(), true);
            } else {
                Wrong.edit(x, "22 source '" + comes[i] + "'", () -> x.edit(0, 2, 0, 1));
            }
            both(x, "a1b2", "a-b-");
        }
    }

    /** The side itself of 60, of 61; what goes makes room for what comes. */
    private static void editOfSixty() {
        for (int side = 0; side < 2; side++) {
            int which = side;
            PutBack x = opened("p=copy[a-c]*", many("a", 58), 58);
            Calls.say(x, 1, "b");
            Calls.say(x, 2, "bb");
            Calls.say(x, 3, many("c", 60));
            Calls.due("22 59", x.edit(side, 0, 0, 1), 59);
            Wrong.edit(x, "22 61", () -> x.edit(which, 0, 0, 2));
            Calls.due("22 60", x.edit(side, 59, 0, 1), 60);
            Wrong.edit(x, "22 61", () -> x.edit(which, 60, 0, 1));
            Wrong.edit(x, "22 61", () -> x.edit(which, 0, 1, 2));
            Wrong.edit(x, "22 120", () -> x.edit(which, 0, 0, 3));
            Wrong.edit(x, "22 61", () -> x.edit(which, 1, 59, 3));
            Calls.due("22 one for one", x.edit(side, 59, 1, 1), 60);
            Calls.due("22 two for two", x.edit(side, 0, 2, 2), 60);
            Calls.due("22 all for all", x.edit(side, 0, 60, 3), 60);
            both(x, many("c", 60), many("c", 60));
            Calls.due("22 all go", x.edit(side, 0, 60, 4), 0);
            both(x, "", "");
            Calls.due("22 all come", x.edit(side, 0, 0, 3), 60);
        }
    }

    /** The other side of 60, of 61. */
    private static void editOtherOfSixty() {
        PutBack x = opened("p=(copy[a].ins\"b\")*", many("a", 29), 58);
        Calls.say(x, 1, "a");
        Calls.say(x, 2, "aa");
        Wrong.edit(x, "22 a view of 62", () -> x.edit(0, 0, 0, 2));
        Calls.due("22 a view of 60", x.edit(0, 0, 0, 1), 60);
        Wrong.edit(x, "22 a view of 62", () -> x.edit(0, 0, 0, 1));
        both(x, many("a", 30), many("ab", 30));
        PutBack y = opened("p=copy[a]*.del[b]*\"\"", many("b", 40), 0);
        Calls.say(y, 1, many("a", 20));
        Calls.say(y, 2, many("a", 21));
        Calls.say(y, 3, "a");
        Wrong.edit(y, "22 a source of 61", () -> y.edit(1, 0, 0, 2));
        Calls.due("22 a source of 60", y.edit(1, 0, 0, 1), 60);
        Wrong.edit(y, "22 a source of 61", () -> y.edit(1, 20, 0, 3));
        Calls.due("22 a source of 60", y.edit(1, 0, 1, 3), 60);
        both(y, many("a", 20) + many("b", 40), many("a", 20));
    }

    private static void editInTheMidst() {
        PutBack x = opened("p=copy[a]*.ins\"b\"then copy[a]*.del\"b\"\"b\"", many("a", 58), 58);
        Calls.say(x, 1, "a");
        Calls.say(x, 2, "aa");
        Wrong.edit(x, "22 61 in the midst", () -> x.edit(0, 0, 0, 2));
        Wrong.edit(x, "22 61 in the midst", () -> x.edit(1, 0, 0, 2));
        Calls.due("22 60 in the midst", x.edit(1, 0, 0, 1), 59);
        Wrong.edit(x, "22 61 in the midst", () -> x.edit(1, 0, 0, 1));
        Wrong.edit(x, "22 61 in the midst", () -> x.edit(0, 0, 0, 1));
        Calls.due("22 shorter", x.edit(0, 0, 59, 3), 0);
    }

    /** Nothing goes, nothing comes, or the same comes: an EDIT as others. */
    private static void editWithoutChange() {
        PutBack x = opened("p=copy[a-c]*.del[0-9]\"0\"", "ab5", 2);
        Calls.say(x, 1, "ab");
        Calls.due("22 nothing", x.edit(1, 1, 0, 6), 3);
        movedIs(x, 3, 0, 0);
        Calls.due("22 nothing", x.edit(0, 3, 0, 6), 2);
        movedIs(x, 2, 0, 0);
        Calls.due("22 the same", x.edit(1, 0, 2, 1), 3);
        movedIs(x, 3, 0, 0);
        Calls.due("28 kept", x.look(3), 3);
        both(x, "ab5", "ab");
        for (int i = 2; i >= 0; i--) {
            Calls.due("23", x.undo(), true);
            Calls.due("28 kept", x.look(3), i);
        }
        Calls.due("23", x.undo(), false);
        both(x, "ab5", "ab");
    }

    /** UNDO: 8 EDITS are kept. */
    private static void undoOfEight() {
        for (int edits = 0; edits <= 18; edits++) {
            PutBack x = opened("p=copy[a-z]*.del[0-9]\"0\"", "5", 0);
            String letters = "abcdefghijklmnopqrstuvwxyz";
            for (int i = 0; i < edits; i++) {
                Calls.say(x, 1, letters.substring(i, i + 1));
                Calls.due("22", x.edit(1, i, 0, 1), i + 2);
                Calls.due("28 kept", x.look(3), Math.min(8, i + 1));
            }
            int first = Math.max(0, edits - 8);
            for (int i = edits - 1; i >= first; i--) {
                Calls.due("23 undo", x.undo(), true);
                both(x, letters.substring(0, i) + "5", letters.substring(0, i));
                Calls.due("28 kept", x.look(3), i - first);
            }
            for (int again = 0; again < 2; again++) {
                Calls.due("23 none", x.undo(), false);
                both(x, letters.substring(0, first) + "5", letters.substring(0, first));
                Calls.due("28 kept", x.look(3), 0);
            }
        }
    }

    /** Both sides as ahead of it, though the VIEW alone would not bring back the SOURCE. */
    private static void undoOfBothSides() {
        PutBack x = opened("p=(copy[a-c].del[0-9]\"0\")*", "a1b2", 2);
        Calls.due("22 all go", x.edit(1, 0, 2, 6), 0);
        both(x, "", "");
        Calls.say(x, 1, "ab");
        Calls.due("22 and come", x.edit(1, 0, 0, 1), 4);
        both(x, "a0b0", "ab");
        Calls.say(x, 1, "c9");
        Calls.due("22 source", x.edit(0, 2, 0, 1), 3);
        both(x, "a0c9b0", "acb");
        Calls.due("23", x.undo(), true);
        both(x, "a0b0", "ab");
        Calls.due("23", x.undo(), true);
        both(x, "", "");
        Calls.due("23", x.undo(), true);
        both(x, "a1b2", "ab");
        Calls.due("23", x.undo(), false);
    }

    /** A refused EDIT is not kept, and an undone one is not refused. */
    private static void undoRefused() {
        PutBack x = opened("p=copy[a]*", "a", 1);
        Calls.say(x, 1, "b");
        Calls.due("22", x.edit(0, 0, 0, 0), 2);
        Wrong.edit(x, "22 no SOURCE", () -> x.edit(0, 0, 0, 1));
        Calls.due("28 kept", x.look(3), 1);
        Calls.due("23", x.undo(), true);
        both(x, "a", "a");
        Calls.due("23", x.undo(), false);
        Calls.due("28 refused", x.look(4), 1);
    }

    /** Behind UNDO edits go on from there; what was undone doesn't come again. */
    private static void undoAndOn() {
        PutBack x = opened("p=copy[a-z]*", "", 0);
        String letters = "abcdefghijklm";
        for (int i = 0; i < 9; i++) {
            Calls.say(x, 1, letters.substring(i, i + 1));
            Calls.due("22", x.edit(0, i, 0, 1), i + 1);
        }
        for (int i = 0; i < 3; i++) {
            Calls.due("23", x.undo(), true);
        }
        both(x, "abcdef", "abcdef");
        Calls.due("28 kept", x.look(3), 5);
        Calls.say(x, 1, "x");
        for (int i = 0; i < 4; i++) {
            Calls.due("22", x.edit(0, 0, 1, 1), 6);
            Calls.due("28 kept", x.look(3), Math.min(8, 6 + i));
        }
        both(x, "xbcdef", "xbcdef");
        String[] ahead = {"xbcdef", "xbcdef", "xbcdef", "abcdef", "abcde", "abcd", "abc", "ab"};
        for (String one : ahead) {
            Calls.due("23", x.undo(), true);
            both(x, one, one);
        }
        Calls.due("23", x.undo(), false);
        both(x, "ab", "ab");
    }

    /** Promise 24: a side comes into a SLOT; NONE if there is none such. */
    private static void copies() {
        PutBack x = opened("p=copy[a].ins\"bb\"", "a", 3);
        for (int into = 0; into < 8; into++) {
            Calls.due("24 into " + into, x.copy(0, into), 1);
            Calls.due("24 into " + into, Calls.read(x, into), "a");
            Calls.due("24 into " + into, x.copy(1, into), 3);
            Calls.due("24 into " + into, Calls.read(x, into), "abb");
        }
        Wrong.side(x, "24", n -> x.copy(n, 0));
        Wrong.slot(x, "24", n -> x.copy(0, n));
        Wrong.slot(x, "24", n -> x.copy(1, n));
        // What has come into a SLOT isn't changed by an EDIT, nor what is open by the SLOT.
        PutBack y = opened("p=copy[a]*", many("a", 60), 60);
        Calls.due("24 of sixty", y.copy(0, 1), 60);
        Calls.due("22", y.edit(0, 0, 1, 2), 59);
        Calls.due("24", y.symbol(1, NONE), 60);
        Calls.say(y, 1, "b");
        both(y, many("a", 59), many("a", 59));
    }

    private static void moves(String before, String after, int stayed, int went, int came) {
        PutBack x = opened("p=copy[a-z]*", before, before.length());
        Calls.say(x, 1, after);
        Calls.due("22", x.edit(0, 0, before.length(), 1), after.length());
        movedIs(x, stayed, went, came);
    }

    /** The beginning as long as can be, and then the end. */
    private static void movedOfTexts() {
        moves("", "", 0, 0, 0);
        moves("", "a", 0, 0, 1);
        moves("a", "", 0, 1, 0);
        moves("a", "a", 1, 0, 0);
        moves("a", "b", 0, 1, 1);
        moves("a", "aa", 1, 0, 1);
        moves("aa", "a", 1, 1, 0);
        moves("aaa", "aa", 2, 1, 0);
        moves("abab", "ab", 2, 2, 0);
        moves("ab", "abab", 2, 0, 2);
        moves("abc", "axc", 1, 1, 1);
        moves("abc", "ac", 1, 1, 0);
        moves("ac", "abc", 1, 0, 1);
        moves("aba", "a", 1, 2, 0);
        moves("a", "aba", 1, 0, 2);
        moves("xab", "ab", 0, 1, 0);
        moves("ab", "xab", 0, 0, 1);
        moves("abc", "xyz", 0, 3, 3);
        moves("abba", "abaa", 2, 1, 1);
        moves("aab", "ab", 1, 1, 0);
        moves("abcabc", "abc", 3, 3, 0);
        moves(many("a", 60), many("a", 59), 59, 1, 0);
        moves(many("a", 59), many("a", 60), 59, 0, 1);
        moves(many("a", 60), many("b", 60), 0, 60, 60);
        moves(many("a", 60), many("a", 59) + "b", 59, 1, 1);
        moves(many("a", 60), "b" + many("a", 59), 0, 1, 1);
        moves(many("a", 60), "", 0, 60, 0);
        moves("", many("a", 60), 0, 0, 60);
    }

    /** Promise 25: of the latest EDIT that was not refused, since open(); NONE behind undo(). */
    private static void movedWhen() {
        PutBack x = opened("p=copy[a-c]*.del[0-9]\"0\"", "ab5", 2);
        Calls.say(x, 1, "c");
        Calls.say(x, 2, "9");
        movedIs(x, NONE, NONE, NONE);
        Calls.due("22 refused", x.edit(1, 0, 0, 2), NONE);
        movedIs(x, NONE, NONE, NONE);
        Calls.due("22", x.edit(1, 1, 0, 1), 4);
        movedIs(x, 1, 0, 1);
        Calls.due("22 refused", x.edit(1, 0, 0, 2), NONE);
        movedIs(x, 1, 0, 1);
        for (int what : new int[] {MIN, -2, -1, 3, 4, MAX}) {
            Calls.due("25 no what", x.moved(what), NONE);
        }
        Calls.due("22", x.edit(0, 3, 1, 2), 3);
        movedIs(x, 3, 0, 0);
        Calls.due("23", x.undo(), true);
        movedIs(x, NONE, NONE, NONE);
        Calls.due("23", x.undo(), true);
        movedIs(x, NONE, NONE, NONE);
        Calls.due("23", x.undo(), false);
        movedIs(x, NONE, NONE, NONE);
        Calls.due("22", x.edit(1, 0, 1, 1), 3);
        movedIs(x, 0, 1, 1);
        Calls.due("21 refused", x.open(0, 2 + 5), NONE);
        movedIs(x, 0, 1, 1);
        Calls.due("21", x.open(0, 0), 2);
        movedIs(x, NONE, NONE, NONE);
    }

    /** How the other side changed, not the one that is edited. */
    private static void movedOfOtherSide() {
        PutBack x = opened("p=swap(copy[a-c]*,copy[x-z]*.ins\"-\").del[0-9]*\"\"", "abxy12", 5);
        both(x, "abxy12", "xy-ab");
        Calls.say(x, 1, "c");
        Calls.due("22 source", x.edit(0, 0, 1, 1), 5);
        both(x, "cbxy12", "xy-cb");
        movedIs(x, 3, 1, 1);
        Calls.due("22 view", x.edit(1, 0, 2, 6), 4);
        both(x, "cb12", "-cb");
        movedIs(x, 2, 2, 0);
        Calls.due("22 source", x.edit(0, 2, 2, 6), 3);
        movedIs(x, 3, 0, 0);
    }

    /** Promise 26: of 60, of 61; NONE if there is none such. */
    private static void joins() {
        PutBack x = new PutBack();
        for (int one : new int[] {0, 1, 30, 31, 59, 60}) {
            for (int other : new int[] {0, 1, 29, 30, 31, 59, 60}) {
                Calls.say(x, 0, many("a", one));
                Calls.say(x, 1, many("b", other));
                Calls.say(x, 2, "stays");
                boolean good = one + other <= 60;
                Calls.due("26 " + one + " " + other, x.join(0, 1, 2), good ? one + other : NONE);
                Calls.due("26 " + one + " " + other, Calls.read(x, 2), good ? many("a", one) + many("b", other) : "stays");
            }
        }
        Calls.say(x, 0, "a");
        Calls.say(x, 1, "b");
        Wrong.slot(x, "26", n -> x.join(n, 1, 2));
        Wrong.slot(x, "26", n -> x.join(0, n, 2));
        Wrong.slot(x, "26", n -> x.join(0, 1, n));
        Calls.due("26 with itself", x.join(0, 0, 0), 2);
        Calls.due("26 with itself", Calls.read(x, 0), "aa");
        Calls.due("26 into the other", x.join(0, 1, 1), 3);
        Calls.due("26 into the other", Calls.read(x, 1), "aab");
        Calls.say(x, 3, many("c", 30));
        Calls.due("26 to 60", x.join(3, 3, 3), 60);
        Calls.stays(x, "26 to 120", () -> x.join(3, 3, 3));
        Calls.stays(x, "26 to 62", () -> x.join(0, 3, 0));
        Calls.due("26 and nothing", x.join(3, 6, 3), 60);
        Calls.due("26 nothing and", x.join(6, 3, 3), 60);
        Calls.due("26 nothing", x.join(6, 6, 3), 0);
    }

    /** Promise 27: each place and number there is, and those beside. */
    private static void cuts() {
        for (int length : new int[] {0, 1, 3, 60}) {
            PutBack x = new PutBack();
            String all = many("abcdef", 10).substring(0, length);
            Calls.say(x, 0, all);
            for (int from : new int[] {MIN, -1, 0, 1, 2, length - 1, length, length + 1, 60, 61, MAX}) {
                for (int take : new int[] {MIN, -1, 0, 1, 2, length - 1, length, length + 1, 60, 61, MAX}) {
                    Calls.say(x, 1, "stays");
                    boolean good = from >= 0 && take >= 0 && (long) from + take <= length;
                    Calls.due("27 " + from + " " + take, x.cut(0, from, take, 1), good ? take : NONE);
                    Calls.due("27 " + from + " " + take, Calls.read(x, 1), good ? all.substring(from, from + take) : "stays");
                }
            }
            Wrong.slot(x, "27", n -> x.cut(n, 0, 0, 1));
            Wrong.slot(x, "27", n -> x.cut(0, 0, 0, n));
        }
        PutBack x = new PutBack();
        Calls.say(x, 0, "abcdef");
        Calls.due("27 into itself", x.cut(0, 2, 3, 0), 3);
        Calls.due("27 into itself", Calls.read(x, 0), "cde");
        Calls.due("27 all", x.cut(0, 0, 3, 0), 3);
        Calls.due("27 all", Calls.read(x, 0), "cde");
        Calls.due("27 nothing", x.cut(0, 3, 0, 0), 0);
        Calls.due("27 nothing", Calls.read(x, 0), "");
    }

    /** Promise 28. */
    private static void looks() {
        PutBack x = new PutBack();
        for (int i = 0; i < 8; i++) {
            Calls.due("28 lenses", x.look(0), i);
            Calls.define(x, (char) ('a' + i) + "=copy[a]*");
        }
        Calls.due("28 lenses", x.look(0), 8);
        for (int lens = 0; lens < 8; lens++) {
            Calls.due("21", x.open(lens, 0), 0);
            Calls.due("28 open", x.look(2), lens);
        }
        for (int what : new int[] {MIN, -2, -1, 5, 6, 7, MAX}) {
            Calls.due("28 no what", x.look(what), NONE);
        }
        for (int i = 1; i <= 30; i++) {
            Calls.due("28 tape", x.look(1), 20 * (i - 1));
            x.feed(0, 0, 0, 0, 0);
        }
        Calls.due("28 tape", x.look(1), 600);
        x.feed(0, 0, 0, 0, 0);
        Calls.due("28 tape", x.look(1), 600);
        x.text(0);
        Calls.due("28 tape", x.look(1), 0);
    }

    /** How often edit() told NONE since open(), 0 if nothing is OPEN. */
    private static void looksOfRefused() {
        PutBack x = Calls.with("p=copy[a]*");
        Calls.due("22", x.edit(0, 0, 0, 0), NONE);
        Calls.due("28 nothing is open", x.look(4), 0);
        Calls.due("21", x.open(0, 0), 0);
        Calls.due("28 since open", x.look(4), 0);
        for (int i = 1; i <= 100; i++) {
            Calls.due("22", x.edit(i % 3, 1, 0, i % 9), NONE);
            Calls.due("28 refused", x.look(4), i);
        }
        Calls.due("22", x.edit(0, 0, 0, 0), 0);
        Calls.due("28 refused", x.look(4), 100);
        x.undo();
        Calls.due("28 refused", x.look(4), 100);
        Calls.due("21 refused", x.open(1, 0), NONE);
        Calls.due("28 refused", x.look(4), 100);
        Calls.due("21", x.open(0, 0), 0);
        Calls.due("28 refused", x.look(4), 0);
    }

    /** At most 512 calls: the last one answers as the first one. */
    private static void calls() {
        PutBack x = new PutBack();
        Calls.define(x, "p=copy[a-b]*.del[0-9]\"0\"");
        Calls.say(x, 0, "ab5");
        Calls.say(x, 1, "b");
        // Ten calls are made so far, one by open(), and one at the end.
        Calls.due("21", x.open(0, 0), 2);
        for (int i = 12; i < 512; i++) {
            Calls.due("22 call " + i, x.edit(1, 0, 1, 1), 3);
        }
        Calls.due("28 the last call", x.look(3), 8);
    }
}

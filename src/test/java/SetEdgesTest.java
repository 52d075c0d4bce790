/** SETS asked: each case at an edge that promises 8 and 12 to 16 name, and the one right beside it. */
public final class SetEdgesTest {
    private static final int NONE = PutBack.NONE;
    private static final long MOST = 1000000000000000000L;

    private SetEdgesTest() {
    }

    public static void main(String[] args) {
        fits();
        fitsOfSixty();
        many();
        manyAtMost();
        nth();
        nthOfLengths();
        nthOfThousand();
        compare();
        compareByOneText();
        compareByManyTexts();
        set();
        setOfSixty();
        goesOn();
        goesOnOfSixty();
        wrongNumbers();
        Calls.finish("SetEdgesTest");
    }

    private static String a(int times) {
        return "a".repeat(times);
    }

    /** Promise 8: whether the whole TEXT is of the SET. */
    private static void fits() {
        PutBack x = Calls.with("p=copy[a]+.del\"bc\"\"bc\".ins\"d\"", "q=copy\"\"", "r=copy[a]*|copy\"b\"");
        String[] told = {"", "a", "ab", "abc", "aabc", "abca", "abcd", "ad", "aad", "d", "add", "b", "aab"};
        String[] sources = {"abc", "aabc"};
        String[] views = {"ad", "aad"};
        for (String text : told) {
            Calls.say(x, 0, text);
            Calls.due("8 source '" + text + "'", x.fits(0, 0, 0), isIn(text, sources));
            Calls.due("8 view '" + text + "'", x.fits(0, 1, 0), isIn(text, views));
            Calls.due("8 empty '" + text + "'", x.fits(1, 0, 0), isIn(text, new String[] {""}));
            Calls.due("8 empty '" + text + "'", x.fits(1, 1, 0), isIn(text, new String[] {""}));
            Calls.due("8 either '" + text + "'", x.fits(2, 0, 0), isIn(text, new String[] {"", "a", "b"}));
        }
        Wrong.lens(x, "8", n -> x.fits(n, 0, 0));
        Wrong.side(x, "8", n -> x.fits(0, n, 0));
        Wrong.slot(x, "8", n -> x.fits(0, 0, n));
    }

    private static int isIn(String text, String[] those) {
        for (String one : those) {
            if (one.equals(text)) {
                return 1;
            }
        }
        return 0;
    }

    private static void fitsOfSixty() {
        String twenty = "\"" + a(20) + "\"";
        PutBack x = Calls.with("p=copy(" + twenty + twenty + twenty + ")", "q=copy[a]*", "r=copy(" + twenty + twenty + twenty + ")?");
        for (int length : new int[] {0, 1, 20, 40, 58, 59, 60}) {
            Calls.say(x, 7, a(length));
            Calls.due("8 of " + length, x.fits(0, 0, 7), length == 60 ? 1 : 0);
            Calls.due("8 of " + length, x.fits(1, 1, 7), 1);
            Calls.due("8 of " + length, x.fits(2, 1, 7), length == 60 || length == 0 ? 1 : 0);
        }
        Calls.say(x, 7, a(59) + "b");
        Calls.due("8 but the last", x.fits(0, 0, 7), 0);
        Calls.due("8 but the last", x.fits(1, 0, 7), 0);
    }

    /** Promise 12: n 0 .. 20. */
    private static void many() {
        PutBack x = Calls.with("p=copy[a-b]*", "q=copy\"" + a(20) + "\"", "r=copy(\"" + a(20) + "\"\"b\")", "s=del[a-c]\"a\"");
        for (int n = 0; n <= 20; n++) {
            Calls.due("12 of " + n, x.many(0, 0, n), 1L << n);
            Calls.due("12 of " + n, x.many(0, 1, n), 1L << n);
            Calls.due("12 of " + n, x.many(1, 0, n), n == 20 ? 1 : 0);
            Calls.due("12 of " + n, x.many(2, 0, n), 0);
            Calls.due("12 of " + n, x.many(3, 0, n), n == 1 ? 3 : 0);
            Calls.due("12 of " + n, x.many(3, 1, n), n == 0 ? 1 : 0);
        }
        // Going down again, too.
        Calls.due("12 of 5", x.many(0, 0, 5), 32);
        Calls.due("12 of 0", x.many(0, 0, 0), 1);
        Wrong.lens(x, "12", n -> (int) x.many(n, 0, 1));
        Wrong.side(x, "12", n -> (int) x.many(0, n, 1));
        Wrong.number(x, "12", 0, 20, n -> (int) x.many(0, 0, n));
        Calls.due("12 NONE", x.many(0, 0, 21), -1L);
        Calls.due("12 NONE", x.many(9, 0, 0), -1L);
    }

    /** 10 to the 18 at most are told. */
    private static void manyAtMost() {
        PutBack x = Calls.with("p=copy[0-9]*", "q=copy[ -z]*", "r=copy([0-9]*|\":\"[0-9]*)");
        long power = 1;
        for (int n = 0; n <= 20; n++) {
            Calls.due("12 of " + n, x.many(0, 0, n), n >= 18 ? MOST : power);
            Calls.due("12 of " + n, x.many(2, 0, n), n >= 18 ? MOST : power + (n == 0 ? 0 : power / 10));
            power *= n < 18 ? 10 : 1;
        }
        Calls.due("12 42 to the 11", x.many(1, 0, 11), 717368321110468608L);
        for (int n = 12; n <= 20; n++) {
            Calls.due("12 42 to the " + n, x.many(1, 0, n), MOST);
        }
        // All numbers of 18 digits but those that begin with ten nines; and then with as many as these behind a : .
        String but = "[0-8][0-9]*";
        for (int i = 0; i < 9; i++) {
            but = "[0-8][0-9]*|\"9\"(" + but + ")";
        }
        x = Calls.with("p=copy(" + but + ")", "q=copy(" + but + "|\":;:;:;:;:;\"[0-9]*)", "r=copy(" + but + "|\":;:;:;:;:\"[0-9]*)",
            "s=copy(" + but + "|\":;:;:;:;:;\"[0-8][0-9]*)");
        Calls.due("12 below", x.many(0, 0, 18), MOST - 100000000L);
        Calls.due("12 just so", x.many(1, 0, 18), MOST);
        Calls.due("12 above", x.many(2, 0, 18), MOST);
        Calls.due("12 below", x.many(3, 0, 18), MOST - 10000000L);
        Calls.due("12 far above", x.many(0, 0, 20), MOST);
    }

    private static void told(PutBack x, int lens, int side, int i, String want) {
        Calls.due("13 nth " + i, x.nth(lens, side, i, 4), want.length());
        Calls.due("13 nth " + i, Calls.read(x, 4), want);
    }

    private static void untold(PutBack x, int lens, int side, int i) {
        Calls.say(x, 4, "stays");
        Calls.stays(x, "13 nth " + i, () -> x.nth(lens, side, i, 4));
        Calls.due("13 stays", Calls.read(x, 4), "stays");
    }

    /** Promise 13: i 0 .. 999, by length, then by SYMBOLS. */
    private static void nth() {
        PutBack x = Calls.with("p=copy[a; ]*.ins\"-\"", "q=copy\"\"", "r=copy\"b\"|copy\"aa\"|copy\" z\"|copy\"-\"");
        String[] least = {"", " ", ";", "a", "  ", " ;", " a", "; ", ";;", ";a", "a ", "a;", "aa", "   "};
        for (int i = 0; i < least.length; i++) {
            told(x, 0, 0, i, least[i]);
            told(x, 0, 1, i, least[i] + "-");
        }
        told(x, 1, 0, 0, "");
        untold(x, 1, 0, 1);
        untold(x, 1, 1, 1);
        String[] four = {"-", "b", " z", "aa"};
        for (int i = 0; i < four.length; i++) {
            told(x, 2, 0, i, four[i]);
        }
        untold(x, 2, 0, 4);
        untold(x, 2, 0, 999);
        for (int into = 0; into < 8; into++) {
            Calls.due("13 into " + into, x.nth(2, 1, 3, into), 2);
            Calls.due("13 into " + into, Calls.read(x, into), "aa");
        }
        Wrong.lens(x, "13", n -> x.nth(n, 0, 0, 0));
        Wrong.side(x, "13", n -> x.nth(0, n, 0, 0));
        Wrong.number(x, "13", 0, 999, n -> x.nth(0, 0, n, 0));
        Wrong.slot(x, "13", n -> x.nth(0, 0, 0, n));
    }

    /** None of more than 20 SYMBOLS. */
    private static void nthOfLengths() {
        PutBack x = Calls.with("p=copy[a]*", "q=copy\"" + a(20) + "\"", "r=copy(\"" + a(20) + "\"[b])", "s=copy(\"" + a(20) + "\"[b]?)",
            "t=copy[a]+", "u=copy(\"" + a(19) + "\"[b]*)");
        for (int i = 0; i <= 20; i++) {
            told(x, 0, i % 2, i, a(i));
        }
        for (int i : new int[] {21, 22, 60, 61, 999}) {
            untold(x, 0, i % 2, i);
        }
        told(x, 1, 0, 0, a(20));
        untold(x, 1, 0, 1);
        untold(x, 2, 0, 0);
        told(x, 3, 1, 0, a(20));
        untold(x, 3, 1, 1);
        told(x, 4, 0, 19, a(20));
        untold(x, 4, 0, 20);
        told(x, 5, 0, 1, a(19) + "b");
        untold(x, 5, 0, 2);
    }

    private static void nthOfThousand() {
        PutBack x = Calls.with("p=copy[0-9].copy[0-9].copy[0-9]", "q=copy([0-8][0-9][0-9]|\"9\"([0-8][0-9]|\"9\"[0-8]))",
            "r=copy([0-9][0-9][0-9]|[a]*)", "s=copy[0-9]*");
        told(x, 0, 0, 0, "000");
        told(x, 0, 0, 998, "998");
        told(x, 0, 0, 999, "999");
        untold(x, 0, 0, 1000);
        told(x, 1, 0, 998, "998");
        untold(x, 1, 0, 999);
        // "", a, aa, 000 .. 995, and no more are told, though there are 999 and aaa.
        told(x, 2, 0, 2, "aa");
        told(x, 2, 0, 3, "000");
        told(x, 2, 0, 999, "996");
        untold(x, 2, 0, 1000);
        told(x, 3, 0, 999, "888");
        told(x, 3, 0, 111, "000");
        told(x, 3, 0, 110, "99");
    }

    /** Promise 14: 0 the same, 1 the first within the second, 2 the second within the first, 3 else. */
    private static void compare() {
        PutBack x = Calls.with("p=copy[a]*", "q=copy\"\"", "r=copy[a]+", "s=copy[a-b]*", "t=copy[b]+", "u=copy(\"aa\"*\"b\"?)",
            "v=copy([a][a]*)?", "w=del[a]\"a\".ins\"b\"");
        int[][] due = {
            {0, 2, 2, 1, 3, 3, 0},
            {1, 0, 3, 1, 3, 1, 1},
            {1, 3, 0, 1, 3, 3, 1},
            {2, 2, 2, 0, 2, 2, 2},
            {3, 3, 3, 1, 0, 3, 3},
            {3, 2, 3, 1, 3, 0, 3},
            {0, 2, 2, 1, 3, 3, 0}};
        for (int one = 0; one < 7; one++) {
            for (int other = 0; other < 7; other++) {
                Calls.due("14 " + one + " " + other, x.compare(one, one % 2, other, other % 2), due[one][other]);
            }
        }
        Calls.due("14 sides of one lens", x.compare(7, 0, 7, 1), 3);
        Calls.due("14 sides of one lens", x.compare(7, 0, 7, 0), 0);
        Calls.due("14 sides of one lens", x.compare(7, 1, 7, 1), 0);
        Calls.due("14 sides of one lens", x.compare(7, 0, 2, 0), 1);
        Calls.due("14 sides of one lens", x.compare(7, 1, 2, 0), 3);
        Wrong.lens(x, "14", n -> x.compare(n, 0, 0, 0));
        Wrong.side(x, "14", n -> x.compare(0, n, 0, 0));
        Wrong.lens(x, "14", n -> x.compare(0, 0, n, 0));
        Wrong.side(x, "14", n -> x.compare(0, 0, 0, n));
    }

    /** SETS that differ by one TEXT alone, the longest or the least one. */
    private static void compareByOneText() {
        String most = "\"" + a(20) + "\"\"" + a(20) + "\"\"" + a(19) + "\"";
        PutBack x = Calls.with("p=copy(" + most + "[a])", "q=copy(" + most + "[a-b])", "r=copy(" + most + "[a]?)", "s=copy(" + most + "\"a\")?",
            "t=copy(" + most + "[b])", "u=copy(" + most + ")");
        int[][] due = {
            {0, 1, 1, 1, 3, 3},
            {2, 0, 3, 3, 2, 3},
            {2, 3, 0, 3, 3, 2},
            {2, 3, 3, 0, 3, 3},
            {3, 1, 3, 3, 0, 3},
            {3, 3, 1, 3, 3, 0}};
        for (int one = 0; one < 6; one++) {
            for (int other = 0; other < 6; other++) {
                Calls.due("14 " + one + " " + other, x.compare(one, 0, other, 1), due[one][other]);
            }
        }
    }

    /** SETS that go two ways with each SYMBOL, and differ behind fifteen of them alone. */
    private static void compareByManyTexts() {
        String each = "(\"a\"|\"b\")";
        String most = each.repeat(14);
        PutBack x = Calls.with("p=copy(" + most + each + ")", "q=copy(" + most + "(\"a\"|\"c\"))", "r=copy(" + most + each + "\"d\"?)",
            "s=copy(" + most + "(\"a\"|[bc]))", "t=copy(" + most + "[a-b])");
        int[][] due = {
            {0, 3, 1, 1, 0},
            {3, 0, 3, 1, 3},
            {2, 3, 0, 3, 2},
            {2, 2, 3, 0, 2},
            {0, 3, 1, 1, 0}};
        for (int one = 0; one < 5; one++) {
            for (int other = 0; other < 5; other++) {
                Calls.due("14 " + one + " " + other, x.compare(one, 1, other, 0), due[one][other]);
            }
        }
        Told.taken(x, "u=p then t");
        Told.refused(x, "v=p then q", 12, 4, PutBack.NONE);
        Told.refused(x, "v=p then s", 12, 4, PutBack.NONE);
    }

    /** Promise 15: POSITIONS, how many FIRST, how many LAST, whether the empty TEXT is of it; no other what. */
    private static void set() {
        PutBack x = Calls.with("p=copy\"\"", "q=copy[a]", "r=copy\"abc\"", "s=copy([a]?[b]?[c]?)", "t=copy([a]|\"bc\")+", "u=del[a-z]\"a\".ins\"zz\"",
            "v=swap(copy[a]?,copy\"bc\")");
        int[][] sources = {{0, 0, 0, 1}, {1, 1, 1, 0}, {3, 1, 1, 0}, {3, 3, 3, 1}, {3, 2, 2, 0}, {1, 1, 1, 0}, {3, 2, 1, 0}};
        int[][] views = {{0, 0, 0, 1}, {1, 1, 1, 0}, {3, 1, 1, 0}, {3, 3, 3, 1}, {3, 2, 2, 0}, {2, 1, 1, 0}, {3, 1, 2, 0}};
        for (int lens = 0; lens < 7; lens++) {
            for (int what = 0; what < 4; what++) {
                Calls.due("15 S of " + lens + " " + what, x.set(lens, 0, what), sources[lens][what]);
                Calls.due("15 V of " + lens + " " + what, x.set(lens, 1, what), views[lens][what]);
            }
        }
        Wrong.lens(x, "15", n -> x.set(n, 0, 0));
        Wrong.side(x, "15", n -> x.set(0, n, 0));
        Wrong.number(x, "15", 0, 3, n -> x.set(0, 0, n));
    }

    private static void setOfSixty() {
        StringBuilder all = new StringBuilder();
        for (char c = 'a'; c <= 'z'; c++) {
            all.append('[').append(c).append("]?");
        }
        for (char c = '0'; c <= ';'; c++) {
            all.append('"').append(c).append("\"?");
        }
        all.append("[ ]?[,]?\"-\"?[/]?");
        String eighteen = "\"" + a(18) + "\"";
        PutBack x = Calls.with("p=copy(" + all + ")", "q=copy(" + eighteen + all + ")", "r=copy(" + "[a]".repeat(60) + ")*");
        int[][] due = {{42, 42, 42, 1}, {60, 1, 43, 0}, {60, 1, 1, 1}};
        for (int lens = 0; lens < 3; lens++) {
            for (int what = 0; what < 4; what++) {
                Calls.due("15 " + lens + " " + what, x.set(lens, what % 2, what), due[lens][what]);
            }
        }
    }

    /** Promise 16: in their order; i NONE: how many; NONE if no TEXT of the SET begins so. */
    private static void goesOn() {
        PutBack x = Calls.with("p=copy(\"ab\"|[;][0-9]?)", "q=copy\"\"", "r=copy[ -z]*");
        String[] begins = {"", "a", "ab", ";", ";5", "b", "aa", "abb", ";55"};
        String[] goes = {";a", "b", "", "0123456789", "", null, null, null, null};
        for (int k = 0; k < begins.length; k++) {
            Calls.say(x, 0, begins[k]);
            String call = "16 behind '" + begins[k] + "' ";
            Calls.due(call, x.goesOn(0, k % 2, 0, NONE), goes[k] == null ? NONE : goes[k].length());
            for (int i = 0; i < 42; i++) {
                Calls.due(call + i, x.goesOn(0, 0, 0, i), goes[k] == null || i >= goes[k].length() ? NONE : goes[k].charAt(i));
            }
        }
        Calls.say(x, 0, "");
        Calls.due("16 the empty TEXT alone", x.goesOn(1, 0, 0, NONE), 0);
        Calls.due("16 the empty TEXT alone", x.goesOn(1, 0, 0, 0), NONE);
        Calls.due("16 all", x.goesOn(2, 0, 0, 41), 'z');
        Calls.say(x, 0, "a");
        Calls.due("16 none begins so", x.goesOn(1, 0, 0, NONE), NONE);
        Wrong.lens(x, "16", n -> x.goesOn(n, 0, 0, 0));
        Wrong.side(x, "16", n -> x.goesOn(0, n, 0, 0));
        Wrong.slot(x, "16", n -> x.goesOn(0, 0, n, 0));
        Wrong.slot(x, "16 how many", n -> x.goesOn(0, 0, n, NONE));
        for (int i : new int[] {Integer.MIN_VALUE, -3, -2, 1, 2, 42, Integer.MAX_VALUE}) {
            Calls.stays(x, "16 with " + i, () -> x.goesOn(0, 0, 0, i));
        }
    }

    private static void goesOnOfSixty() {
        String twenty = "\"" + a(20) + "\"";
        PutBack x = Calls.with("p=copy(" + twenty + twenty + twenty + ")", "q=copy[a-b]*");
        for (int length : new int[] {0, 1, 59, 60}) {
            Calls.say(x, 0, a(length));
            Calls.due("16 behind " + length, x.goesOn(0, 0, 0, NONE), length == 60 ? 0 : 1);
            Calls.due("16 behind " + length, x.goesOn(0, 0, 0, 0), length == 60 ? NONE : 'a');
            Calls.due("16 behind " + length, x.goesOn(1, 0, 0, NONE), 2);
            Calls.due("16 behind " + length, x.goesOn(1, 0, 0, 1), 'b');
            Calls.due("16 behind " + length, x.goesOn(1, 0, 0, 2), NONE);
        }
    }

    /** Of no lens at all there is nothing, whatever else is asked. */
    private static void wrongNumbers() {
        PutBack x = new PutBack();
        Wrong.lens(x, "8", n -> x.fits(n, 0, 0));
        Wrong.lens(x, "12", n -> (int) x.many(n, 0, 0));
        Wrong.lens(x, "13", n -> x.nth(n, 0, 0, 0));
        Wrong.lens(x, "14", n -> x.compare(n, 0, n, 0));
        Wrong.lens(x, "15", n -> x.set(n, 0, 0));
        Wrong.lens(x, "16", n -> x.goesOn(n, 0, 0, NONE));
    }
}

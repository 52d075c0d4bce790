import java.lang.management.ManagementFactory;

/** Deep and repeated lenses, wild numbers in every state, and the room that a run takes. */
public final class LimitsTest {
    private static final int[] WILD = {Integer.MIN_VALUE, -61, -3, -2, -1, 0, 1, 2, 3, 5, 7, 8, 20, 59, 60, 61, 599, 600,
        999, 1000, Integer.MAX_VALUE - 1, Integer.MAX_VALUE};

    private static final String FLIP = "(del\"a\"\"a\".ins\"b\"|del\"b\"\"b\".ins\"a\")";
    /** Adds one to a number of bits, the least first. */
    private static final String NUMBERS = "a=(del\"1\"\"1\".ins\"0\")*.(del\"0\"\"0\".ins\"1\".copy[0-1]*|copy\"\")";

    private static final String LESS = "b=(del\"0\"\"0\".ins\"1\")*.(del\"1\"\"1\".ins\"0\".copy[0-1]*|copy\"\")";
    private static final String OTHERS = "b=(del\"0\"\"0\".ins\"1\"|del\"1\"\"1\".ins\"0\")*";

    private static long state = 5;

    private LimitsTest() {
    }

    private static int pick(int n) {
        state = state * 6364136223846793005L + 1442695040888963407L;
        return (int) Math.floorMod(state >>> 33, (long) n);
    }

    public static void main(String[] args) {
        deepBranches();
        deepStars();
        deepSwaps();
        deepThens();
        emptyParts();
        manyDicts();
        towers();
        growing();
        wildNumbers();
        roomOfLenses();
        roomOfLaws();
        roomOfTowers();
        Calls.finish("LimitsTest");
    }

    private static String repeated(String text, int times) {
        return text.repeat(times);
    }

    /** Twelve levels in each definition, and each one within the next. */
    private static PutBack nested(String begin, String core, String end, int definitions) {
        PutBack x = new PutBack();
        for (int i = 0; i < definitions; i++) {
            String inner = i == 0 ? core : "l" + (char) ('a' + i - 1);
            String told = "l" + (char) ('a' + i) + "=" + repeated(begin, 12) + inner + repeated(end, 12);
            Calls.due("define " + told, Calls.define(x, told), i);
        }
        return x;
    }

    private static void roundTrip(PutBack x, int lens, String source, String view, String anew) {
        Calls.say(x, 0, source);
        Calls.due("get " + source, x.get(lens, 0, 1), view.length());
        Calls.due("get " + source, Calls.read(x, 1), view);
        Calls.due("put " + source, x.put(lens, 1, 0, 2), source.length());
        Calls.due("put " + source, Calls.read(x, 2), source);
        Calls.due("create " + source, x.create(lens, 1, 2), anew.length());
        Calls.due("create " + source, Calls.read(x, 2), anew);
    }

    private static void deepBranches() {
        PutBack x = nested("(copy\"\"|copy\"b\".", "copy\"\"", ")", 5);
        for (int n = 0; n <= 60; n += 12) {
            roundTrip(x, 4, repeated("b", n), repeated("b", n), repeated("b", n));
        }
        Calls.due("positions", x.set(4, 0, 0), 60);
        Calls.due("laws", x.laws(4, 2, 5), 0);
    }

    private static void deepStars() {
        PutBack x = nested("copy\"a\".(", "copy\"b\"", ")*.copy\"c\"", 2);
        String deep = repeated("a", 24) + "b" + repeated("c", 24);
        roundTrip(x, 1, deep, deep, deep);
        roundTrip(x, 1, "aacacaaccc", "aacacaaccc", "aacacaaccc");
    }

    private static void deepSwaps() {
        PutBack x = nested("swap(copy[a-z],", "copy[0-9]", ")", 4);
        String source = "abcdefghijklmnopqrstuvwxyzabcdefghijklmnopqrstuv5";
        String view = new StringBuilder(source).reverse().toString();
        roundTrip(x, 3, source, view, source);
        Calls.due("positions", x.set(3, 1, 0), 49);
    }

    private static void deepThens() {
        PutBack x = new PutBack();
        Calls.define(x, "a = (copy [a-c] . del [0-9] \"5\" . ins \";\")*");
        for (char c = 'b'; c <= 'h'; c++) {
            String told = c + " = " + (char) (c - 1) + " then (copy [a-c] . swap(copy \";\", ins \"\"))*";
            Calls.due("define " + told, Calls.define(x, told), c - 'a');
        }
        roundTrip(x, 7, "a1b2c3", "a;b;c;", "a5b5c5");
        x = new PutBack();
        Calls.define(x, "a = swap(copy [a-z], copy \"5\" . copy [a-z])");
        Calls.define(x, "b = a then swap(copy \"5\" . copy [a-z], copy [a-z])");
        for (char c = 'c'; c <= 'h'; c++) {
            String told = c + " = " + (char) (c - 1) + " then " + (char) (c - 1) + " then " + (char) (c - 1);
            Calls.due("define " + told, Calls.define(x, told), c - 'a');
        }
        roundTrip(x, 7, "x5y", "x5y", "x5y");
    }

    /** Parts that are empty on both sides may be named over and over. */
    private static void emptyParts() {
        PutBack x = new PutBack();
        Calls.define(x, "a=" + repeated("ins\"\".", 90) + "key\"\"");
        for (char c = 'b'; c <= 'g'; c++) {
            Calls.define(x, c + "=" + repeated((char) (c - 1) + ".", 250) + (char) (c - 1));
        }
        Calls.due("define", Calls.define(x, "h=dict(g.copy\"x\".g)"), 7);
        roundTrip(x, 7, "xxx", "xxx", "xxx");
        Calls.due("key", x.key(7, 0, 1, 3), 0);
    }

    private static void manyDicts() {
        PutBack x = new PutBack();
        String told = "a=" + repeated("dict ", 118) + "key[a]";
        Calls.due("define", Calls.define(x, told), PutBack.NONE);
        Calls.due("fault", x.fault(0), 8);
        Calls.due("place", x.fault(1), 2 + 116 * 5);
        Calls.due("define", Calls.define(x, "a=" + repeated("dict ", 119)), PutBack.NONE);
        Calls.due("fault", x.fault(0), 1);
        Calls.due("place", x.fault(1), 597);
        Calls.due("define", Calls.define(x, "a=copy" + repeated("(", 590)), PutBack.NONE);
        Calls.due("fault", x.fault(0), 3);
        Calls.due("place", x.fault(1), 18);
    }

    /** The given lenses, and behind them up to eight in all: each names the one ahead of it 86 times. */
    private static PutBack tower(int most, String... given) {
        PutBack x = new PutBack();
        for (int i = 0; i < most; i++) {
            char c = (char) ('a' + i);
            String before = String.valueOf((char) (c - 1));
            String told = i < given.length ? given[i] : c + "=" + before + repeated(" then " + before, 85);
            Calls.due("define " + told, Calls.define(x, told), i);
        }
        return x;
    }

    /** Lenses may name others by "then" so often that nobody could wait for each: all calls answer as ever. */
    private static void towers() {
        PutBack x = tower(8, "a=copy[a]");
        roundTrip(x, 7, "a", "a", "a");
        lawful(x, 7);
        Calls.due("open", x.open(7, 0), 1);
        Calls.due("edit", x.edit(1, 0, 1, 0), 1);
        Calls.due("edit", x.edit(0, 0, 1, 0), 1);
        x = tower(8, "a=" + FLIP + "*");
        String sixty = repeated("abbab", 12);
        roundTrip(x, 7, sixty, sixty, sixty);
        lawful(x, 7);
        x = tower(8, "a=copy[a-z]", "b=swap(a,a).swap(a,a.a).swap(a,a.a.a.a).swap(a,a.a.a.a.a.a)");
        // 86 to the 6 is 0, 1, 1, 1 modulo 2, 3, 5, 7.
        roundTrip(x, 7, "abcdefghijklmnopq", "abdecghijflmnopqk", "abcdefghijklmnopq");
        lawful(x, 7);
        x = tower(8, "a=swap(copy[a-z],copy([a-z][a-z]))");
        // 86 to the 7 is 2 modulo 3.
        roundTrip(x, 7, "abc", "cab", "abc");
        lawful(x, 7);
        x = tower(8, "a=(del\"a\"\"a\".ins\"bb\"|del\"bb\"\"bb\".ins\"a\")*");
        roundTrip(x, 7, "abbaabb", "abbaabb", "abbaabb");
        lawful(x, 7);
        Calls.say(x, 0, repeated("a", 31));
        Calls.due("62 symbols in the midst", x.get(7, 0, 1), PutBack.NONE);
        Calls.due("62 symbols in the midst", x.create(7, 0, 1), PutBack.NONE);
        Calls.due("62 symbols in the midst", x.put(7, 1, 0, 1), PutBack.NONE);
        Calls.due("62 symbols in the midst", x.open(7, 0), PutBack.NONE);
        towersOfNumbers();
        towerOfMoves();
        towerOfLengths(1500);
        towerOfDeepNumbers();
        towerInRounds();
        towerInMixedRounds();
        towerIntoRound();
        towerOverSixty();
        towersOfKeys();
        towersOfLongKeys();
        towerOfNothing();
        towerInRow();
        towerOfSpacedNumbers();
        rowsSplitInTwoWays();
        rowsOfManyPositions();
        towersOfMixedNumbers();
        askedAhead();
        twiceAlone();
        manyWaiting();
    }

    /** One less, all bits turned, or by the first bit one more or all others turned: told in Java. */
    private static String mixed(int lens, String text) {
        if (lens < 2 || text.isEmpty()) {
            return lens == 0 ? less(text) : turned(text);
        }
        String rest = text.substring(1);
        String turned = turned(rest);
        return text.charAt(0) == '0' ? "0" + turned : "1" + turned(less(turned));
    }

    private static String less(String text) {
        int one = text.indexOf('1');
        int many = one < 0 ? text.length() : one;
        return "1".repeat(many) + (one < 0 ? "" : "0" + text.substring(one + 1));
    }

    private static String turned(String text) {
        return text.replace('0', 'x').replace('1', '0').replace('x', '1');
    }

    private static String mixed(int[][] words, int lens, String text) {
        if (lens < 3) {
            return mixed(lens, text);
        }
        String made = text;
        for (int each : words[lens]) {
            made = mixed(words, each, made);
        }
        return made;
    }

    /** Three lenses in any order, and what is made of them: they carry in too many ways to be known all at once. */
    private static void towersOfMixedNumbers() {
        String more = NUMBERS.substring(2);
        for (int round = 0; round < 25; round++) {
            PutBack x = Calls.with(LESS.replace("b=", "a="), OTHERS, "c=copy\"\"|copy\"0\"." + OTHERS.substring(2) + "|copy\"1\"." + more);
            int[][] words = new int[8][9];
            for (int i = 3; i < 8; i++) {
                StringBuilder told = new StringBuilder();
                for (int k = 0; k < 9; k++) {
                    words[i][k] = i == 3 ? pick(3) : pick(6) == 0 ? pick(i) : i - 1;
                    told.append(k == 0 ? "" : " then ").append((char) ('a' + words[i][k]));
                }
                Calls.due("define", Calls.define(x, (char) ('a' + i) + "=" + told), i);
            }
            for (int length = 1 + round % 5; length <= 60; length += 14) {
                String source = bits(123456789123L * (round + 1), length);
                roundTrip(x, 7, source, mixed(words, 7, source), source);
            }
        }
    }

    /** Lenses of more than one kind: what all but the last one show of the source is asked, and it alone isn't. */
    private static void askedAhead() {
        String longer = "copy[a-b]*.ins\"cccccccccc\"";
        String shorter = "copy[a-b]*.del\"cccccccccc\"\"cccccccccc\"";
        PutBack x = Calls.with("k=" + FLIP + "*", "j=copy[a-b].k|copy\"\"", "g=" + longer, "s=" + shorter,
            "m=k" + repeated(" then g then s then k", 26), "n=k then m", "o=k" + repeated(" then j then k", 21) + " then g", "p=k then o");
        for (int lens = 4; lens < 6; lens++) {
            putsAhead(x, lens, "a", 50, true, lens == 4 ? "b" : "a");
            putsAhead(x, lens, "a", 51, false, "");
            putsAhead(x, lens, "", 60, false, "");
        }
        // The first symbol is turned 22 times, the second one 43 times.
        for (int lens = 6; lens < 8; lens++) {
            putsAhead(x, lens, "aacccccccccc", 60, true, lens == 6 ? "ab" : "ba");
            putsAhead(x, lens, "cccccccccc", 51, true, "");
        }
    }

    private static void putsAhead(PutBack x, int lens, String view, int many, boolean good, String due) {
        Calls.say(x, 0, repeated("a", many));
        Calls.say(x, 1, view);
        for (int i = 0; i < 2; i++) {
            Calls.due("put " + lens + " into " + many, x.put(lens, 1, 0, 2), good ? due.length() : PutBack.NONE);
            Calls.due("put " + lens + " into " + many, good ? Calls.read(x, 2) : due, due);
        }
    }

    /** A lens of very many parts, twice behind itself. */
    private static void twiceAlone() {
        PutBack x = Calls.with("n=ins\"\"", "a=(del\"a\"\"a\".ins\"bb\"|del\"bb\"\"bb\".ins\"a\")*.copy\";\"" + repeated(".n", 200), "b=a then a",
            "c=b then a", "d=b then b");
        roundTrip(x, 1, "abb;", "bba;", "abb;");
        roundTrip(x, 2, "abb;", "abb;", "abb;");
        roundTrip(x, 3, "abb;", "bba;", "abb;");
        roundTrip(x, 4, "abb;", "abb;", "abb;");
        Calls.say(x, 0, repeated("a", 30) + ";");
        Calls.due("61 symbols", x.get(2, 0, 1), PutBack.NONE);
        Calls.say(x, 0, repeated("a", 29) + ";");
        Calls.due("59 symbols", x.get(2, 0, 1), 30);
    }

    /** Each lens has 60 parts in the midst, of which the first one has so many again. */
    private static void manyWaiting() {
        PutBack x = Calls.with("n=ins\"c\"", "m=del\"c\"\"c\"", "c=copy[a-b]");
        for (char c = 'd'; c < 'i'; c++) {
            Told.taken(x, c + "=copy[a-b]" + repeated(".n", 59) + " then " + (char) (c - 1) + repeated(".m", 59));
        }
        // From the last one on, as nothing is known then of those within it.
        for (int lens = 7; lens >= 2; lens--) {
            roundTrip(x, lens, "a", "a", "a");
            lawful(x, lens);
        }
    }

    /** Three symbols stay behind each bit of a number. */
    private static void towerOfSpacedNumbers() {
        PutBack x = tower(8, "a=(del\"1\"\"1\".ins\"0\".copy\"xyz\")*.(del\"0\"\"0\".ins\"1\".copy(\"xyz\"([0-1]\"xyz\")*)|copy\"\")");
        long added = 86L * 86 * 86 * 86 * 86 * 86 * 86;
        for (long n = 1; n < 20000; n *= 7) {
            roundTrip(x, 7, spaced(n), spaced(n + added), spaced(n));
            roundTrip(x, 1, spaced(n), spaced(n + 86), spaced(n));
        }
    }

    private static String spaced(long n) {
        return bits(n, 15).replace("0", "0xyz").replace("1", "1xyz");
    }

    /** One symbol and two, twice, and then two and one. */
    private static void rowsSplitInTwoWays() {
        String two = "copy([a-b][a-b])";
        PutBack x = Calls.with("r=" + FLIP + "." + two, "s=" + two + "." + FLIP, "t=r then r then s", "u=r then s then s", "v=s then r then r then r then s");
        roundTrip(x, 2, "aba", "abb", "aba");
        roundTrip(x, 3, "aba", "bba", "aba");
        roundTrip(x, 4, "aba", "bba", "aba");
    }

    /** Of two lenses of 57 positions the parts that aren't plain have 85 in all. */
    private static void rowsOfManyPositions() {
        String some = "f" + repeated(".f", 13);
        String others = "c" + repeated(".c", 13);
        PutBack x = Calls.with("c=copy[a-c]", "f=del\"a\"\"a\".ins\"b\"|del\"b\"\"b\".ins\"a\"|copy\"c\"", "g=" + some + "." + others,
            "h=" + others + "." + some, "q=g then h", "r=q.copy\";\"", "s=r then r then r", "t=r then(g.copy\";\")");
        String source = repeated("abca", 7);
        String turned = repeated("bacb", 7);
        roundTrip(x, 4, source, turned, source);
        roundTrip(x, 5, source + ";", turned + ";", source + ";");
        roundTrip(x, 6, source + ";", turned + ";", source + ";");
        roundTrip(x, 7, source + ";", source.substring(0, 14) + turned.substring(14) + ";", source + ";");
        Calls.due("positions", x.set(6, 0, 0), 57);
        Calls.due("positions", x.set(6, 1, 0), 57);
        // The same of sources alone.
        x = Calls.with("c=copy[a-c]", "f=del(\"a\"|\"b\"|\"c\")\"c\".ins\"d\"", "d=copy\"d\"", "g=" + some + "." + others,
            "h=" + others.replace("c", "d") + "." + some, "q=g then h", "r=q.copy\";\"",
            "s=r then" + repeated(" del\"d\"\"d\".ins\"b\".", 28) + "copy\";\"");
        roundTrip(x, 5, source, repeated("d", 28), repeated("c", 28));
        roundTrip(x, 7, source + ";", repeated("b", 28) + ";", repeated("c", 28) + ";");
    }

    private static void towerInRow() {
        PutBack x = tower(6, NUMBERS);
        Calls.due("define", Calls.define(x, "g=f.copy\",\".f"), 6);
        Calls.due("define", Calls.define(x, "h=g" + repeated(" then g", 85)), 7);
        // 86 to the 6 is 0 modulo 64.
        roundTrip(x, 7, "10110,011101", "10110,011101", "10110,011101");
        x = tower(6, "a=dict(swap(key[a-z],copy[a-z]).copy\";\")");
        Calls.due("define", Calls.define(x, "g=f.copy\",\".f"), 6);
        Calls.due("define", Calls.define(x, "h=g" + repeated(" then g", 85)), 7);
        roundTrip(x, 7, "ab;cd;,ef;", "ab;cd;,ef;", "ab;cd;,ef;");
    }

    /** What is shown of the empty text, made anew from it and put back into it is not the same. */
    private static void towerOfNothing() {
        PutBack x = tower(3, "a=ins\"x\"|del\"x\"\"x\"");
        Calls.due("define", Calls.define(x, "d=del[0-9]?\"5\".copy\"x\"?then c"), 3);
        Calls.say(x, 0, "");
        for (int i = 0; i < 2; i++) {
            Calls.due("get", x.get(3, 0, 1), 0);
            Calls.due("create", x.create(3, 0, 1), 1);
            Calls.due("put", x.put(3, 0, 0, 1), 0);
        }
        // Once more, so that it is an odd number of times.
        Calls.due("define", Calls.define(x, "e=c then a"), 4);
        roundTrip(x, 4, "", "x", "");
        roundTrip(x, 4, "x", "", "x");
    }

    private static void lawful(PutBack x, int lens) {
        for (int kind = 0; kind < 4; kind++) {
            Calls.due("laws " + kind, x.laws(lens, kind, 5), 0);
        }
    }

    /** Numbers of 60 bits, the least first: towers add what the last lens named adds, so often as they name it. */
    private static void towersOfNumbers() {
        adds(tower(8, NUMBERS), 7, 1);
        adds(tower(8, NUMBERS, LESS), 6, -1);
        adds(tower(8, NUMBERS, LESS, "c=a then b then a then a then b then a"), 5, 2);
        adds(tower(8, NUMBERS, OTHERS, "c=a then b then a then b"), 5, 0);
        adds(tower(8, NUMBERS, OTHERS, "c=a then b then a then a then b"), 5, -1);
        adds(tower(8, NUMBERS, "b=copy[0-1].a|copy\"\"", "c=a then b then a then b then b"), 5, 8);
        adds(tower(8, NUMBERS, OTHERS, LESS.replace("b=", "c="), "d=a then b then c then b then a"), 4, 3);
        PutBack x = tower(8, NUMBERS, "b=dict(a.key\";\")", "c=b");
        ordered();
        turned();
        // 86 to the 5 is 0 modulo 16, 32 modulo 64.
        roundTrip(x, 7, "0101;110010;11;000000;", "0101;110011;11;000001;", "0101;110010;11;000000;");
    }

    /** Lenses whose order matters: one more and then all bits turned, an odd number of times; and a first one that deletes. */
    private static void ordered() {
        PutBack x = tower(3, NUMBERS, OTHERS, "c=a then b" + repeated(" then a then b", 40));
        Calls.due("define", Calls.define(x, "d=c then c then c"), 3);
        Calls.due("define", Calls.define(x, "e=d then d then d then d then d"), 4);
        for (long n = 1; n > 0; n *= 37) {
            roundTrip(x, 2, bits(n, 60), bits(-n - 2, 60), bits(n, 60));
            roundTrip(x, 4, bits(n, 60), bits(-n - 2, 60), bits(n, 60));
        }
        Calls.due("define", Calls.define(x, "f=(copy\"0\"|del[1-2]\"2\".ins\"1\")*then d"), 5);
        // 111 is -1 by three bits, so that -1 is shown, as is 121; what is made anew has the other symbol.
        roundTrip(x, 5, "121", "111", "222");
        // 101 is 5, which is shown of 1.
        Calls.say(x, 0, "221");
        Calls.say(x, 1, "101");
        Calls.due("put", x.put(5, 1, 0, 2), 3);
        Calls.due("put", Calls.read(x, 2), "200");
        Calls.due("define", Calls.define(x, "g=copy[0-1]*.del\"b\"\"b\"then d"), 6);
        Calls.due("define", Calls.define(x, "h=del\"b\"\"b\".copy[0-1]*then d"), 7);
        for (long n = 1; n > 0; n *= 37) {
            roundTrip(x, 6, bits(n, 59) + "b", bits(-n - 2, 59), bits(n, 59) + "b");
            roundTrip(x, 7, "b" + bits(n, 59), bits(-n - 2, 59), "b" + bits(n, 59));
        }
    }

    /** Each lens names the one ahead of it and the one that turns all bits, in turn, 42 times. */
    private static void turned() {
        PutBack x = tower(2, NUMBERS, OTHERS);
        // What a lens shows of n is factor times n, and so much more.
        long factor = 1;
        long more = 1;
        for (int i = 2; i < 8; i++) {
            String before = i == 2 ? "a" : String.valueOf((char) ('a' + i - 1));
            String told = (char) ('a' + i) + "=" + before + " then b" + repeated(" then " + before + " then b", 41);
            Calls.due("define", Calls.define(x, told), i);
            long allFactor = 1;
            long allMore = 0;
            for (int k = 0; k < 42; k++) {
                allFactor *= -factor;
                allMore = -factor * allMore - more - 1;
            }
            factor = allFactor;
            more = allMore;
            for (long n = 1; n > 0; n *= 1234567) {
                roundTrip(x, i, bits(n, 60), bits(factor * n + more, 60), bits(n, 60));
            }
        }
    }

    private static void adds(PutBack x, int levels, int each) {
        long added = each;
        for (int i = 0; i < levels; i++) {
            added *= 86;
        }
        for (long n = 1; n > 0; n *= 37) {
            roundTrip(x, 7, bits(n, 60), bits(n + added, 60), bits(n, 60));
        }
        lawful(x, 7);
    }

    /** A lens that is also a part of others, up to some 24 deep. */
    private static void towerOfDeepNumbers() {
        String number = NUMBERS.substring(2);
        for (int deep = 1; deep <= 11; deep++) {
            PutBack x = tower(2, "a=del\"x\"\"x\".ins\"y\"." + number + "|del\"y\"\"y\".ins\"x\".copy[0-1]*");
            String begin = repeated("copy\"a\".(", deep);
            String end = repeated(")*.copy\"c\"", deep);
            Calls.due("define", Calls.define(x, "c=" + begin + "(a)*.copy\"b\"" + end), 2);
            Calls.due("define", Calls.define(x, "d=" + begin + "(b)*.copy\"b\"" + end), 3);
            Calls.due("define", Calls.define(x, "e=c then c" + repeated(" then c", 84)), 4);
            // One of two links adds one: 43 in all.
            roundTrip(x, 1, "x00000001", "x11010101", "x00000001");
            String ahead = repeated("a", deep);
            String behind = repeated("c", deep);
            for (int i = 3; i < 5; i++) {
                roundTrip(x, i, ahead + "x00000001b" + behind, ahead + "x11010101b" + behind, ahead + "x00000001b" + behind);
            }
        }
    }

    /** The number has another one ahead of it and behind it in turn. */
    private static void towerOfMoves() {
        PutBack x = tower(8, NUMBERS, "b=swap(copy[x],a.copy\";\")", "c=swap(a.copy\";\",copy[x])", "d=b then c");
        for (long n = 1; n > 0; n *= 37) {
            String source = "x" + bits(n, 50) + ";";
            roundTrip(x, 7, source, "x" + bits(n + 2L * 86 * 86 * 86 * 86, 50) + ";", source);
        }
        lawful(x, 7);
    }

    /** Numbers of bits that aren't of one length: they go through more texts than can be recalled. */
    private static void towerOfLengths(long step) {
        PutBack x = tower(8, "a=(del\"bb\"\"bb\".ins\"a\")*.(del\"a\"\"a\".ins\"bb\".copy(\"a\"|\"bb\")*|copy\"\")");
        long added = 1;
        for (int i = 0; i < 7; i++) {
            added *= 86;
        }
        for (long n = 1; n < 4096; n += step) {
            roundTrip(x, 7, lettered(n), lettered(n + added), lettered(n));
        }
        lawful(x, 7);
    }

    /** Numbers of 17 bits, the ones of which are longer: more texts than can be recalled, but they come again. */
    private static void towerInRounds() {
        PutBack x = tower(8, "a=(del\"22\"\"22\".ins\"0\")*.(del\"0\"\"0\".ins\"22\".copy(\"0\"|\"22\")*|copy\"\")");
        long added = 86L * 86 * 86 * 86 * 86 * 86 * 86;
        String source = bits(12345, 17).replace("1", "22");
        roundTrip(x, 7, source, bits(12345 + added, 17).replace("1", "22"), source);
    }

    /** The same numbers, but each lens names several of those ahead of it: all of them are the first one so often. */
    private static void towerInMixedRounds() {
        String[] told = new String[8];
        long[] added = new long[8];
        told[0] = "a=(del\"22\"\"22\".ins\"0\")*.(del\"0\"\"0\".ins\"22\".copy(\"0\"|\"22\")*|copy\"\")";
        added[0] = 1;
        for (int i = 1; i < 8; i++) {
            char before = (char) ('a' + i - 1);
            char earlier = (char) ('a' + i / 2);
            told[i] = (char) ('a' + i) + "=a" + repeated(" then " + before, 60) + " then " + (i > 1 ? earlier : 'a');
            added[i] = 1 + 60 * added[i - 1] + (i > 1 ? added[i / 2] : 1);
        }
        PutBack x = tower(8, told);
        String source = bits(54321, 17).replace("1", "22");
        roundTrip(x, 7, source, bits(54321 + added[7], 17).replace("1", "22"), source);
    }

    /** Symbols go one by one, and then y and z are shown in turn: what comes again isn't what was there at first. */
    private static void towerIntoRound() {
        PutBack x = tower(8, "a=del[a-b]\"a\".copy[a-b]*.copy\"x\"|(del\"x\"\"x\".ins\"y\"|del\"z\"\"z\".ins\"y\")|del\"y\"\"y\".ins\"z\"");
        for (int n = 0; n <= 59; n++) {
            Calls.say(x, 0, repeated("ab", 30).substring(0, n) + "x");
            Calls.due("get", x.get(7, 0, 1), 1);
            Calls.due("get", x.symbol(1, 0), n % 2 == 0 ? 'z' : 'y');
            Calls.due("62 symbols in the midst", x.create(7, 1, 2), PutBack.NONE);
        }
    }

    /** One symbol more with each lens: what all but the last one show of the source is asked, when it is put into. */
    private static void towerOverSixty() {
        PutBack x = tower(1, "a=ins\"a\".copy[a]*|del\"b\"\"b\".copy[b]*");
        Calls.due("define", Calls.define(x, "b=a" + repeated(" then a", 79)), 1);
        Calls.due("define", Calls.define(x, "c=b" + repeated(" then a", 39)), 2);
        Calls.due("define", Calls.define(x, "d=a then b"), 3);
        for (int lens : new int[] {1, 2, 3}) {
            int more = lens == 1 ? 80 : lens == 2 ? 119 : 81;
            // 'more' lenses show as many symbols more, some of them b that go.
            for (int went = more - 62; went <= 60; went++) {
                boolean shown = more - went <= 60;
                boolean put = more - 1 - went <= 60;
                Calls.say(x, 0, repeated("b", went));
                Calls.due("get " + went, x.get(lens, 0, 1), shown ? more - went : PutBack.NONE);
                Calls.say(x, 1, repeated("a", 60));
                Calls.due("put " + went, x.put(lens, 1, 0, 2), put ? more - 60 : PutBack.NONE);
            }
        }
    }

    private static String lettered(long n) {
        return bits(n, 12).replace("0", "a").replace("1", "bb");
    }

    private static String bits(long n, int many) {
        StringBuilder made = new StringBuilder();
        for (int i = 0; i < many; i++) {
            made.append((n >> i) & 1);
        }
        return made.toString();
    }

    private static void towersOfKeys() {
        PutBack x = tower(7, "a=dict(swap(key[a-z],copy[a-z]).copy\";\")");
        Calls.due("define", Calls.define(x, "h=dict(key[a-z].copy[a-z].copy\";\".del[0-9]\"0\")then g"), 7);
        Calls.say(x, 0, "ab;1cd;2");
        Calls.say(x, 1, "cd;xy;ab;");
        Calls.due("put", x.put(7, 1, 0, 2), 12);
        Calls.due("put", Calls.read(x, 2), "cd;2xy;0ab;1");
        Calls.due("parts", x.parts(7, 1), 3);
        Calls.due("key", x.key(7, 1, 1, 2), 1);
        Calls.due("key", Calls.read(x, 2), "y");
        Calls.due("aligned", x.aligned(7, 1, 0, 1), PutBack.NONE);
        Calls.due("open", x.open(7, 0), 6);
        Calls.due("edit", x.edit(1, 0, 6, 1), 12);
        PutBack alone = tower(1, "a=dict(key[a-z].copy[a-z].copy\";\".del[0-9]\"0\")");
        for (int kind = 0; kind < 4; kind++) {
            Calls.due("laws " + kind, x.laws(7, kind, 5), alone.laws(0, kind, 5));
        }
        x = tower(6, "a=" + FLIP);
        Calls.due("define", Calls.define(x, "h=dict(f.key[0-9]).ins\"\""), 6);
        Calls.due("define", Calls.define(x, "g=dict(f.key[0-9].del[x-z]\"x\")"), 7);
        Calls.say(x, 0, "a1zb2ya3x");
        Calls.say(x, 1, "a3b1b7");
        Calls.due("aligned", x.aligned(7, 1, 0, 0), 2);
        Calls.due("aligned", x.aligned(7, 1, 0, 1), 0);
        Calls.due("aligned", x.aligned(7, 1, 0, 2), -2);
        Calls.due("put", x.put(7, 1, 0, 2), 9);
        Calls.due("put", Calls.read(x, 2), "a3xb1zb7x");
        x = tower(7, "a=key[a-c]|del\"x\"\"x\".ins\"x\"");
        Calls.due("define", Calls.define(x, "h=dict(g.del[0-9]\"5\")"), 7);
        Calls.say(x, 0, "a1x2c3");
        Calls.say(x, 1, "cxb");
        Calls.due("put", x.put(7, 1, 0, 2), 6);
        Calls.due("put", Calls.read(x, 2), "c3x2b5");
        Calls.due("key", x.key(7, 1, 0, 2), 1);
        Calls.due("key", x.key(7, 1, 1, 2), 0);
    }

    /** Each bit becomes longer and shorter again; KEYS of the last dict are asked of what its parts show. */
    private static void towersOfLongKeys() {
        PutBack x = tower(4, "a=dict((copy[0-1].ins\"c\")*.key[;])", "b=dict((copy[0-1].del\"c\"\"c\")*.key[;])", "c=a then b" + repeated(" then a then b", 39),
            "d=dict((copy[0-1].ins\"dd\")*.key[;])");
        Calls.due("define", Calls.define(x, "e=c then d"), 4);
        Calls.due("define", Calls.define(x, "f=" + NUMBERS.substring(2) + ".copy[;]"), 5);
        Calls.due("define", Calls.define(x, "g=(f)*" + repeated(" then(f)*", 65)), 6);
        Calls.due("define", Calls.define(x, "h=g then d"), 7);
        Calls.say(x, 1, ";");
        for (int lens : new int[] {4, 7}) {
            for (int bits = 0; bits <= 59; bits++) {
                Calls.say(x, 0, repeated("1", bits) + ";");
                Calls.due("get " + bits, x.get(lens, 0, 2), bits <= 19 ? 3 * bits + 1 : PutBack.NONE);
                Calls.due("put " + bits, x.put(lens, 1, 0, 2), bits <= 19 ? 1 : PutBack.NONE);
            }
        }
    }

    /** More texts in the midst, and more parts that wait, than there is room for at first. */
    private static void growing() {
        String b = repeated("b", 20);
        String c = repeated("c", 20);
        PutBack x = new PutBack();
        Calls.define(x, "a = copy [a] . ins \"" + b + "\" . ins \"" + c + "\" then key (\"a" + b.substring(1) + "\"\"b\"\"" + c + "\")");
        Calls.define(x, "d = dict a");
        Calls.say(x, 0, repeated("a", 60));
        Calls.say(x, 1, "a" + b + c);
        Calls.due("keys of 41 symbols", x.put(1, 1, 0, 2), 1);
        Calls.due("keys of 41 symbols", x.aligned(1, 1, 0, 0), 0);
        x = new PutBack();
        Calls.define(x, "a=(copy[a])*");
        Calls.define(x, "b=a" + repeated(" then a", 80));
        Calls.say(x, 0, repeated("a", 60));
        Calls.due("81 texts of 60", x.put(1, 0, 0, 1), 60);
        Calls.due("81 texts of 60", Calls.read(x, 1), repeated("a", 60));
        x = new PutBack();
        Calls.define(x, "a=ins\"a\"then copy\"a\"");
        for (char k = 'b'; k <= 'h'; k++) {
            String told = k + "=" + (char) (k - 1) + repeated(".ins\"b\"", 50) + "then copy\"a\".del\"" + b + "\"\"" + b
                + "\".del\"" + b + "\"\"" + b + "\".del\"bbbbbbbbbb\"\"bbbbbbbbbb\"";
            Calls.due("define " + told, Calls.define(x, told), k - 'a');
        }
        roundTrip(x, 7, "", "a", "");
    }

    private static int wild() {
        return pick(3) == 0 ? WILD[pick(WILD.length)] : pick(9) - 1;
    }

    private static void wildNumbers() {
        for (int run = 0; run < 200; run++) {
            PutBack x = new PutBack();
            String[] some = {"a = dict (key [a-c]+ . del [0-9]* \"7\" . copy \";\")", "b = a then (copy [a-c]+ . copy \";\")*",
                "c = copy [a] | del [b] \"b\"", "d = c . copy \",\" . a", "e = swap(a, copy \"-\" . c)"};
            for (int i = 0; i < 512; i++) {
                if (pick(12) == 0) {
                    Calls.define(x, some[pick(some.length)]);
                } else if (pick(8) == 0) {
                    Calls.say(x, pick(8), new String[] {"", "a1;b;", "a;b;", "a,a;", "-ac;", "b"}[pick(6)]);
                } else {
                    wildCall(x, pick(29));
                }
            }
            Calls.due("lenses", x.look(0) <= 8, true);
        }
    }

    private static void wildCall(PutBack x, int which) {
        int a = wild();
        int b = wild();
        int c = wild();
        int d = wild();
        switch (which) {
            case 0: x.feed(a, b, c, d, a ^ b); break;
            case 1: x.end(a); break;
            case 2: x.lens(); break;
            case 3: x.fault(a); break;
            case 4: x.text(a); break;
            case 5: x.symbol(a, b); break;
            case 6: x.fits(a, b, c); break;
            case 7: x.get(a, b, c); break;
            case 8: x.put(a, b, c, d); break;
            case 9: x.create(a, b, c); break;
            case 10: x.many(a, b, c); break;
            case 11: x.nth(a, b, c, d); break;
            case 12: x.compare(a, b, c, d); break;
            case 13: x.set(a, b, c); break;
            case 14: x.goesOn(a, b, c, d); break;
            case 15: x.parts(a, b); break;
            case 16: x.aligned(a, b, c, d); break;
            case 17: x.key(a, b, c, d); break;
            case 18: x.laws(a, b, c); break;
            case 19: x.open(a, b); break;
            case 20: x.edit(a, b, c, d); break;
            case 21: x.undo(); break;
            case 22: x.copy(a, b); break;
            case 23: x.moved(a); break;
            case 24: x.join(a, b, c); break;
            case 25: x.cut(a, b, c, d); break;
            default: x.look(a); break;
        }
    }

    private static long allocated() {
        return ((com.sun.management.ThreadMXBean) ManagementFactory.getThreadMXBean())
            .getThreadAllocatedBytes(Thread.currentThread().getId());
    }

    /** The room is some 7.3 million fields and elements; a field has four bytes at least. */
    private static void room(String what, long before) {
        long bytes = allocated() - before;
        System.out.println("room of " + what + ": " + bytes + " bytes");
        Calls.due("room of " + what, bytes < 12000000L, true);
    }

    private static void roomOfLenses() {
        String[] tapes = {"a=" + repeated("ins\"\".", 99) + "x", "a=copy(" + repeated("\"\"", 290) + ")*x",
            "a=" + repeated("ins\"a\".", 59) + "ins\"b\"x", "a=copy(" + repeated("[a]", 60) + ")" + repeated(".ins\"\"", 50) + "x"};
        for (String tape : tapes) {
            int[] numbers = new int[(tape.length() + 19) / 20 * 5];
            for (int i = 0; i < numbers.length; i++) {
                numbers[i] = Calls.four(tape, 4 * i);
            }
            long before = allocated();
            PutBack x = new PutBack();
            int calls = 0;
            while (calls + numbers.length / 5 + 2 <= 512) {
                for (int i = 0; i < numbers.length; i += 5) {
                    x.feed(numbers[i], numbers[i + 1], numbers[i + 2], numbers[i + 3], numbers[i + 4]);
                }
                x.end(tape.length());
                x.lens();
                calls += numbers.length / 5 + 2;
            }
            room("lenses", before);
        }
    }

    private static void roomOfLaws() {
        PutBack x = new PutBack();
        Calls.define(x, "a = dict (key [a-c]+ . del [0-9]* \"7\" . copy \";\")");
        Calls.define(x, "b = a then (copy [a-c]+ . copy \";\")*");
        Calls.say(x, 0, "a1;b2;c3;a1;b2;c3;a1;b2;c3;a1;b2;c3;a1;b2;c3;a1;b2;c3;");
        Calls.say(x, 1, "a;b;c;a;b;c;a;b;c;a;b;c;a;b;c;a;b;c;a;b;c;a;b;c;");
        x.open(1, 0);
        long before = allocated();
        for (int i = 0; i < 512; i++) {
            switch (i % 4) {
                case 0: x.laws(1, i / 4 % 4, 5); break;
                case 1: x.put(1, 1, 0, 2); break;
                case 2: x.edit(1, 0, 0, 7); break;
                default: x.nth(1, 0, 999, 3); break;
            }
        }
        room("laws, put, edit and nth", before);
    }

    private static void roomOfTowers() {
        long before = allocated();
        PutBack x = tower(8, "a=" + FLIP, "b=a" + repeated(".a", 29));
        room("tower of rows", before);
        before = allocated();
        adds(tower(8, NUMBERS), 7, 1);
        room("tower of numbers", before);
        before = allocated();
        towerOfLengths(4096);
        // What is recalled are numbers of eight bytes.
        System.out.println("room of a tower of lengths: " + (allocated() - before) + " bytes");
        Calls.due("room of a tower of lengths", allocated() - before < 24000000L, true);
        Calls.due("lenses", x.look(0), 8);
    }
}

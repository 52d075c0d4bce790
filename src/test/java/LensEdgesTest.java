/**
 * What lenses show, put back and make anew: each case at an edge that the document's second part and promises 9 to 11 and
 * 17 to 20 name, and the one right beside it.
 */
public final class LensEdgesTest {
    private static final int NONE = PutBack.NONE;
    private static final int ANEW = -2;
    private static final String TWENTY = "\"bbbbbbbbbbbbbbbbbbbb\"";

    private LensEdgesTest() {
    }

    public static void main(String[] args) {
        shownOfSixty();
        shownByKinds();
        notShown();
        putOfSixty();
        putByKinds();
        putByBranches();
        putByPlace();
        putByKey();
        keysOfSeveralUnits();
        keysBehindOthers();
        notPut();
        notOfKinds();
        madeOfSixty();
        madeByKinds();
        notMade();
        shownInTheMidst();
        putInTheMidst();
        madeInTheMidst();
        lastIsNotShown();
        shownOfKeys();
        eightDeep();
        parts();
        partsOfKinds();
        partsOfEightThens();
        aligned();
        alignedOfKinds();
        key();
        keyOfKinds();
        laws();
        lawsOfFew();
        lawsBroken();
        lawsOfSixty();
        lawsOfTheLeast();
        Calls.finish("LensEdgesTest");
    }

    private static String many(String text, int times) {
        return text.repeat(times);
    }

    /** A want of null: there is none, and the slot stays. */
    private static void shows(PutBack x, int lens, String source, String want) {
        Calls.say(x, 0, source);
        Calls.say(x, 2, "stays");
        Calls.due("9 of '" + source + "'", x.get(lens, 0, 2), want == null ? NONE : want.length());
        Calls.due("9 of '" + source + "'", Calls.read(x, 2), want == null ? "stays" : want);
    }

    private static void puts(PutBack x, int lens, String view, String source, String want) {
        Calls.say(x, 0, source);
        Calls.say(x, 1, view);
        Calls.say(x, 2, "stays");
        Calls.due("10 '" + view + "' into '" + source + "'", x.put(lens, 1, 0, 2), want == null ? NONE : want.length());
        Calls.due("10 '" + view + "' into '" + source + "'", Calls.read(x, 2), want == null ? "stays" : want);
    }

    private static void makes(PutBack x, int lens, String view, String want) {
        Calls.say(x, 1, view);
        Calls.say(x, 2, "stays");
        Calls.due("11 of '" + view + "'", x.create(lens, 1, 2), want == null ? NONE : want.length());
        Calls.due("11 of '" + view + "'", Calls.read(x, 2), want == null ? "stays" : want);
    }

    /** Promise 9: NONE, and nothing comes, if it would be longer than 60. */
    private static void shownOfSixty() {
        PutBack x = Calls.with("p=copy[a]*.ins\"b\"", "q=(copy[a].ins\"b\")*", "r=copy[a]*", "s=ins\"b\".swap(copy[a]*,ins\"c\")",
            "t=copy[a]*.del[b]*\"\"", "u=(copy[a]|del[c]\"c\".ins" + TWENTY + ")*");
        shows(x, 0, many("a", 59), many("a", 59) + "b");
        shows(x, 0, many("a", 60), null);
        shows(x, 1, many("a", 30), many("ab", 30));
        shows(x, 1, many("a", 31), null);
        shows(x, 2, many("a", 60), many("a", 60));
        shows(x, 3, many("a", 58), "bc" + many("a", 58));
        shows(x, 3, many("a", 59), null);
        shows(x, 4, many("b", 60), "");
        shows(x, 4, many("a", 60), many("a", 60));
        shows(x, 5, "ccc", many("b", 60));
        shows(x, 5, "accc", null);
        shows(x, 5, "ccca", null);
        shows(x, 5, "cccc", null);
        shows(x, 5, many("a", 20) + "cc", many("a", 20) + many("b", 40));
        shows(x, 5, many("a", 21) + "cc", null);
    }

    /** The empty TEXT of each kind. */
    private static void shownByKinds() {
        PutBack x = Calls.with("a=copy\"\"", "b=ins\"\"", "c=del[a]*\"\"", "d=(copy[a])*", "e=dict(key[a])", "f=copy[a]|ins\"b\"",
            "g=swap(copy[a]?,copy[b]?)", "h=ins\"x\"then del\"x\"\"x\"");
        String[] want = {"", "", "", "", "", "b", "", ""};
        for (int lens = 0; lens < 8; lens++) {
            shows(x, lens, "", want[lens]);
            makes(x, lens, want[lens], "");
            puts(x, lens, want[lens], "", "");
        }
        shows(x, 6, "a", "a");
        shows(x, 6, "b", "b");
        shows(x, 6, "ab", "ba");
        shows(x, 6, "ba", null);
    }

    /** It is no SOURCE, or there is none such. */
    private static void notShown() {
        PutBack x = Calls.with("p=copy[a]+.del\",\"\",\".ins\"--\"", "q=copy[a]*");
        for (String no : new String[] {"", "a", ",", "aa", "a,a", "a,,", "b,", "a--", "a-"}) {
            shows(x, 0, no, null);
        }
        shows(x, 0, "a,", "a--");
        Calls.say(x, 0, "a,");
        Wrong.lens(x, "9", n -> x.get(n, 0, 1));
        Wrong.slot(x, "9", n -> x.get(0, n, 1));
        Wrong.slot(x, "9 into", n -> x.get(0, 0, n));
        for (int into = 0; into < 8; into++) {
            Calls.say(x, 0, "a,");
            Calls.due("9 into " + into, x.get(0, 0, into), 3);
            Calls.due("9 into " + into, Calls.read(x, into), "a--");
        }
    }

    /** Promise 10: likewise; the outcome of 60 and of 61. */
    private static void putOfSixty() {
        PutBack x = Calls.with("p=copy[a]*.del[b]*\"\"", "q=(copy[a].del[b]*\"bb\")*", "r=copy[a]*.ins\"c\"");
        for (int kept = 0; kept <= 60; kept += 15) {
            puts(x, 0, many("a", 60 - kept), many("b", kept), many("a", 60 - kept) + many("b", kept));
            if (kept > 0) {
                puts(x, 0, many("a", 61 - kept), many("b", kept), null);
            }
        }
        puts(x, 1, many("a", 20), "", many("abb", 20));
        puts(x, 1, many("a", 21), "", null);
        puts(x, 1, many("a", 20), "a", "a" + many("abb", 19));
        puts(x, 1, many("a", 20), "abbbb", null);
        puts(x, 1, many("a", 20), "abbba", "abbba" + many("abb", 18));
        puts(x, 2, many("a", 59) + "c", many("a", 60), many("a", 59));
        puts(x, 2, "c", many("a", 60), "");
    }

    private static void putByKinds() {
        PutBack x = Calls.with("a=copy[a]*", "b=key[a]*", "c=del[a]*\"aa\"", "d=ins\"a\"", "e=swap(copy[a]*.del[0-9]?\"\",copy[b]*.del[x-z]?\"\")");
        puts(x, 0, "", "aaa", "");
        puts(x, 0, "aaa", "", "aaa");
        puts(x, 1, "a", "aaa", "a");
        puts(x, 2, "", "aaa", "aaa");
        puts(x, 2, "", "", "");
        puts(x, 3, "a", "", "");
        puts(x, 4, "", "1", "1");
        puts(x, 4, "bba", "aaa1bx", "a1bbx");
        puts(x, 4, "", "a1bx", "1x");
        puts(x, 4, "b", "1", "1b");
    }

    /** By the branch of which v is, into c or anew; if the VIEWS are the same by that of which c is. */
    private static void putByBranches() {
        PutBack x = Calls.with("a=copy[a].del[0-9]\"1\"|copy[b].del[0-9]\"2\"|del[c]\"c\"",
            "b=del[x]\"x\".copy[a]*.del[0-9]\"1\"|del[y]\"y\".copy[a]*.del[0-9]\"2\"",
            "c=del[x]\"x\".copy[a]|copy[b]|del[z]\"z\".copy[a-b]", "d=(copy[a].del[0-9]\"1\"|copy[b].del[0-9]\"2\")*");
        puts(x, 0, "a", "a7", "a7");
        puts(x, 0, "b", "a7", "b2");
        puts(x, 0, "b", "b7", "b7");
        puts(x, 0, "", "b7", "c");
        puts(x, 0, "", "c", "c");
        puts(x, 0, "a", "c", "a1");
        puts(x, 1, "aa", "x7", "xaa7");
        puts(x, 1, "aa", "y7", "yaa7");
        puts(x, 1, "", "ya7", "y7");
        // The third has the views of the first two: it is by c, but within these it is by v.
        puts(x, 2, "a", "xa", "xa");
        puts(x, 2, "b", "xa", "b");
        puts(x, 2, "a", "b", "xa");
        puts(x, 2, "b", "za", "zb");
        puts(x, 2, "a", "zb", "za");
        puts(x, 3, "ab", "b7a8", "a1b2");
        puts(x, 3, "aa", "a7a8", "a7a8");
        puts(x, 3, "ba", "b7b8", "b7a1");
    }

    /** A*: the first into the first and so on. */
    private static void putByPlace() {
        PutBack x = Calls.with("p=(copy[a-c].del[0-9]*\"7\")*", "q=((copy[a].del[0-9]\"7\")*.copy[;].del[0-9]\"8\")*");
        String[] sources = {"", "a1", "a1b2", "a1b2c3"};
        String[][] wants = {{"", "c7", "c7b7", "c7b7a7"}, {"", "c1", "c1b7", "c1b7a7"}, {"", "c1", "c1b2", "c1b2a7"},
            {"", "c1", "c1b2", "c1b2a3"}};
        for (int s = 0; s < sources.length; s++) {
            for (int v = 0; v <= 3; v++) {
                puts(x, 0, "cba".substring(0, v), sources[s], wants[s][v]);
            }
        }
        puts(x, 0, many("a", 60), many("a", 60), many("a", 60));
        puts(x, 0, many("a", 59), many("a", 60), many("a", 59));
        puts(x, 0, many("a", 60), many("a", 59), null);
        puts(x, 0, many("a", 59), many("a", 58), many("a", 59) + "7");
        puts(x, 1, "a;aa;", "a1a2;3;4", "a1;3a7a7;4");
        puts(x, 1, ";;;", "a1a2;3;4", ";3;4;8");
    }

    /** dict A: each into the first part with the same KEY that none took yet. */
    private static void putByKey() {
        PutBack x = Calls.with("p=dict(key[a-c]*.del[0-9]\"7\".copy[;])", "q=dict(copy[a-c].key\"\".del[0-9]\"7\")",
            "r=(key[a-c]*.del[0-9]\"7\".copy[;])*");
        puts(x, 0, "", "", "");
        puts(x, 0, "", "a1;", "");
        puts(x, 0, "a;", "", "a7;");
        puts(x, 0, "a;", "a1;", "a1;");
        puts(x, 0, "a;a;", "a1;", "a1;a7;");
        puts(x, 0, "a;a;", "a1;a2;", "a1;a2;");
        puts(x, 0, "a;a;", "a1;b3;a2;", "a1;a2;");
        puts(x, 0, "a;a;a;", "a1;b3;a2;", "a1;a2;a7;");
        puts(x, 0, "a;", "b3;a1;a2;", "a1;");
        puts(x, 0, "b;a;b;", "a1;b3;a2;", "b3;a1;b7;");
        // The empty KEY, and one that only begins like another.
        puts(x, 0, ";", "a1;2;3;", "2;");
        puts(x, 0, ";;;", "a1;2;3;", "2;3;7;");
        puts(x, 0, "ab;", "a1;b2;", "ab7;");
        puts(x, 0, "a;", "ab1;aa2;", "a7;");
        puts(x, 0, "aa;a;", "a1;aa2;", "aa2;a1;");
        // All KEYS are the same empty one: as by place.
        puts(x, 1, "cb", "a1b2", "c1b2");
        puts(x, 1, "cba", "a1b2", "c1b2a7");
        puts(x, 2, "b;a;", "a1;b2;", "b1;a2;");
        // As many parts as there can be.
        puts(x, 0, many(";", 30), many("5;", 30), many("5;", 30));
        puts(x, 0, many(";", 31), many("5;", 30), null);
    }

    /** All that its key UNITS have, from the left in the VIEW, one behind the other; those of a dict within aside. */
    private static void keysOfSeveralUnits() {
        PutBack x = Calls.with("p=dict(key[a-b]*.copy[,].key[a-b]*.del[0-9]\"7\".copy[;])",
            "q=dict(swap(key[a].copy[0-9],key[b]).del[0-9]\"7\")",
            "r=dict(key[x-z].dict(key[a-c].del[0-9]\"8\").copy[;].del[0-9]\"7\")");
        puts(x, 0, "ab,;", "a,b1;b,a2;", "ab,1;");
        puts(x, 0, ",ab;a,b;", "ab,1;,ba2;,ab3;", ",ab1;a,b3;");
        puts(x, 1, "ba5ba6", "a1b2a3b4", "a5b2a6b4");
        puts(x, 2, "xcb;", "yb1;2xa3b4c5;6", "xc5b4;6");
        puts(x, 2, "x;x;", "xa1;2xb3;4", "x;2x;4");
    }

    /** Dicts ahead of and behind others whose VIEWS are as long as their SOURCES: each goes by its own KEYS. */
    private static void keysBehindOthers() {
        PutBack x = Calls.with("d=dict(key[a-c].del[0-9]\"5\".ins\"6\")", "t=(swap(copy[a-c],copy[6]))*", "p=d then t", "s=(swap(copy[a-c],copy[0-9]))*",
            "e=dict(swap(del[0-9]\"5\".ins\"6\",key[a-c]))", "q=s then e", "r=q then t", "u=d then dict(swap(copy[a-c],key[6]))");
        puts(x, 0, "b6a6", "a1b2", "b2a1");
        puts(x, 2, "6b6a", "a1b2", "b2a1");
        puts(x, 2, "6b6c6a", "a1b2", "b2c5a1");
        puts(x, 5, "b6a6", "a1b2", "b2a1");
        puts(x, 6, "6b6a6a", "a1b2", "b2a1a5");
        puts(x, 7, "6b6a", "a1b2", "b2a1");
        makes(x, 7, "6b6a", "b5a5");
    }

    /** It is no VIEW, no SOURCE, or there is none such. */
    private static void notPut() {
        PutBack x = Calls.with("p=copy[a]*.del[,]\",\".ins\"b\"", "q=copy[a]");
        for (String no : new String[] {"", "a", "a,", "ab,", "abb", "ba"}) {
            puts(x, 0, no, "a,", null);
        }
        for (String no : new String[] {"", "a", "ab", ",,", "a,a"}) {
            puts(x, 0, "b", no, null);
        }
        puts(x, 0, "b", ",", ",");
        Calls.say(x, 0, "a,");
        Calls.say(x, 1, "aab");
        Wrong.lens(x, "10", n -> x.put(n, 1, 0, 2));
        Wrong.slot(x, "10 view", n -> x.put(0, n, 0, 2));
        Wrong.slot(x, "10 source", n -> x.put(0, 1, n, 2));
        Wrong.slot(x, "10 into", n -> x.put(0, 1, 0, n));
        for (int into = 0; into < 8; into++) {
            Calls.say(x, 0, "a,");
            Calls.say(x, 1, "aab");
            Calls.due("10 into " + into, x.put(0, 1, 0, into), 3);
            Calls.due("10 into " + into, Calls.read(x, into), "aa,");
        }
        Calls.say(x, 3, "a");
        Calls.due("10 a VIEW into itself", x.put(1, 3, 3, 3), 1);
    }

    /** Of each kind by itself: a TEXT that is none of its SOURCES, none of its VIEWS. */
    private static void notOfKinds() {
        String[] told = {"copy[a]", "key[a]*", "del[a]*\"\"", "ins\"a\"", "copy[a]|ins\"b\"", "(copy[a])*", "dict(key[a])", "copy[a]then copy[a]",
            "swap(copy[a],copy\"\")", "copy[a].ins\"\""};
        String[] source = {"a", "aa", "aa", "", "a", "aa", "aa", "a", "a", "a"};
        String[] view = {"a", "aa", "", "a", "a", "aa", "aa", "a", "a", "a"};
        for (int i = 0; i < told.length; i++) {
            PutBack x = Calls.with("p=" + told[i]);
            shows(x, 0, source[i], view[i]);
            puts(x, 0, view[i], source[i], source[i]);
            for (String no : new String[] {"c", "ac", "ca", "aac"}) {
                shows(x, 0, no, null);
                puts(x, 0, view[i], no, null);
                puts(x, 0, no, source[i], null);
                puts(x, 0, no, no, null);
                makes(x, 0, no, null);
            }
        }
    }

    /** Promise 11: likewise. */
    private static void madeOfSixty() {
        PutBack x = Calls.with("p=copy[a]*.del[b]\"b\"", "q=(copy[a].del[b]*\"bb\")*", "r=copy[a]*.del[b]*" + TWENTY, "s=copy[a]*.ins\"c\"");
        makes(x, 0, many("a", 59), many("a", 59) + "b");
        makes(x, 0, many("a", 60), null);
        makes(x, 1, many("a", 20), many("abb", 20));
        makes(x, 1, many("a", 21), null);
        makes(x, 2, many("a", 40), many("a", 40) + many("b", 20));
        makes(x, 2, many("a", 41), null);
        makes(x, 3, many("a", 59) + "c", many("a", 59));
        makes(x, 3, "c", "");
    }

    /** As PUT BACK, but del: t; branches with V the same: by A; all parts anew; then: A from what B makes. */
    private static void madeByKinds() {
        PutBack x = Calls.with("a=copy[a-b].del[0-9]*\"\"", "b=del[x]\"x\".copy[a]|del[y]\"y\".copy[a]|copy[b].del[0-9]\"3\"",
            "c=dict(key[a-b].del[0-9]\"4\")", "d=(copy[a-b].del[0-9]\"5\")*", "e=d then(copy[a-b].ins\"-\")*", "f=swap(a,copy[c].del[0-9]\"6\")",
            "g=copy[a]|copy[b]|del[0]\"0\".copy[a-b]");
        makes(x, 0, "a", "a");
        makes(x, 1, "a", "xa");
        makes(x, 1, "b", "b3");
        makes(x, 2, "", "");
        makes(x, 2, "aba", "a4b4a4");
        makes(x, 3, "", "");
        makes(x, 3, "ba", "b5a5");
        makes(x, 4, "", "");
        makes(x, 4, "b-a-", "b5a5");
        makes(x, 5, "ca", "ac6");
        makes(x, 6, "a", "a");
        makes(x, 6, "b", "b");
    }

    private static void notMade() {
        PutBack x = Calls.with("p=copy[a]*.del[,]\",\".ins\"b\"");
        for (String no : new String[] {"", "a", "a,", "ab,", "abb", "ba", ","}) {
            makes(x, 0, no, null);
        }
        Calls.say(x, 1, "aab");
        Wrong.lens(x, "11", n -> x.create(n, 1, 2));
        Wrong.slot(x, "11 view", n -> x.create(0, n, 2));
        Wrong.slot(x, "11 into", n -> x.create(0, 1, n));
        for (int into = 0; into < 8; into++) {
            Calls.say(x, 1, "aab");
            Calls.due("11 into " + into, x.create(0, 1, into), 3);
            Calls.due("11 into " + into, Calls.read(x, into), "aa,");
        }
    }

    /** Letters that become longer and shorter again, and the two by themselves. */
    private static PutBack swelling() {
        return Calls.with("w=copy[a]*.ins" + TWENTY, "n=copy[a]*.del" + TWENTY + TWENTY, "t=w then n", "m=t then copy[a]*", "i=w then copy[a]*.copy" + TWENTY);
    }

    /** What A SHOWS may not be longer than 60. */
    private static void shownInTheMidst() {
        PutBack x = swelling();
        for (int lens = 2; lens < 4; lens++) {
            shows(x, lens, many("a", 40), many("a", 40));
            shows(x, lens, many("a", 41), null);
            puts(x, lens, "a", many("a", 40), "a");
            puts(x, lens, "a", many("a", 41), null);
            puts(x, lens, "", many("a", 41), null);
        }
        // Alone it isn't shown to be put into, but in the midst it is.
        puts(x, 0, "a" + many("b", 20), many("a", 41), "a");
        puts(x, 4, "a" + many("b", 20), many("a", 40), "a");
        puts(x, 4, "a" + many("b", 20), many("a", 41), null);
        // Parts that become longer by one, shorter by one or stay, and two symbols more.
        x = Calls.with("p=(copy\"a\"|del\"b\"\"b\").ins\"cc\".copy[e]*", "q=p then copy(\"a\"?\"cc\"[e]*)");
        puts(x, 1, "acc", "a" + many("e", 57), "a");
        puts(x, 1, "acc", "a" + many("e", 58), null);
        puts(x, 1, "acc", "b" + many("e", 58), "a");
        puts(x, 1, "acc", "b" + many("e", 59), null);
        puts(x, 0, "acc", "b" + many("e", 59), "a");
        // Longer by one, and by one again: of a source of 60 there is no text in the midst.
        x = Calls.with("p=copy[a]*.(ins\"b\"|copy\"d\".ins\"d\")", "q=p then copy[a]*.(del\"b\"\"b\".ins\"ee\"|copy\"dd\".ins\"f\")");
        puts(x, 1, "ee", many("a", 59), "");
        puts(x, 1, "ee", many("a", 60), null);
        puts(x, 1, "ee", many("a", 58) + "d", "");
        puts(x, 1, "ee", many("a", 59) + "d", null);
        // Each part becomes longer or shorter by one, then shorter or longer again.
        x = Calls.with("p=(copy\"x\".(ins\"b\"|del\"z\"\"z\"))*", "q=p then(copy\"x\".(del\"b\"\"b\"|ins\"d\"))*");
        shows(x, 1, many("x", 30), many("x", 30));
        shows(x, 1, many("x", 31), null);
        shows(x, 1, many("xz", 30), many("xd", 30));
        puts(x, 1, "x", many("x", 31), null);
        puts(x, 1, "x", many("x", 30), "x");
    }

    /** What is PUT BACK into that may not be longer than 60. */
    private static void putInTheMidst() {
        PutBack x = swelling();
        for (int lens = 2; lens < 4; lens++) {
            puts(x, lens, many("a", 40), "", many("a", 40));
            puts(x, lens, many("a", 41), "", null);
            puts(x, lens, many("a", 60), "", null);
        }
        // Shorter again behind: what is put back in the midst has 61, though the outcome would have 41.
        x = Calls.with("w=copy[a]*.ins" + TWENTY, "n=copy[a]*.del[b]*" + TWENTY, "p=copy[a]*.ins\"c\"then copy[a]*.del[c]\"c\"", "q=w then copy[a]*.del"
            + TWENTY + TWENTY);
        puts(x, 1, many("a", 40), many("b", 20), many("a", 40) + many("b", 20));
        puts(x, 1, many("a", 41), many("b", 20), null);
        puts(x, 2, many("a", 59), "a", many("a", 59));
        puts(x, 2, many("a", 60), "a", null);
        puts(x, 2, "a", many("a", 59), "a");
        puts(x, 2, "a", many("a", 60), null);
        puts(x, 3, many("a", 40), many("a", 40), many("a", 40));
    }

    /** What B makes may not be longer than 60. */
    private static void madeInTheMidst() {
        PutBack x = swelling();
        for (int lens = 2; lens < 4; lens++) {
            makes(x, lens, many("a", 40), many("a", 40));
            makes(x, lens, many("a", 41), null);
            makes(x, lens, many("a", 60), null);
            makes(x, lens, "", "");
        }
        makes(x, 4, many("a", 40) + many("b", 20), many("a", 40));
        makes(x, 1, many("a", 41), null);
        // Two symbols of each one are made in the midst, and one of these; the texts there may also be shorter.
        x = Calls.with("p=(del\"p\"\"p\".ins\"a\".(ins\"b\"|del\"z\"\"z\"))*", "q=p then(del(\"a\"\"b\"?)\"ab\".ins\"c\")*");
        makes(x, 1, many("c", 30), many("p", 30));
        makes(x, 1, many("c", 31), null);
        puts(x, 1, many("c", 31), many("pz", 30), null);
        puts(x, 1, many("c", 30), many("pz", 29), many("pz", 29) + "p");
        puts(x, 1, many("c", 30), many("pz", 30), many("pz", 30));
        shows(x, 1, many("p", 30), many("c", 30));
        shows(x, 1, many("p", 31), null);
        shows(x, 1, many("pz", 30), many("c", 30));
    }

    /** To put back, what the last lens of all SHOWS is not asked. */
    private static void lastIsNotShown() {
        PutBack x = Calls.with("p=copy[a]*.del[x]\"x\"then(copy[a].ins\"bbbb\")*", "q=p then copy\"abbbb\"*");
        for (int lens = 0; lens < 2; lens++) {
            shows(x, lens, many("a", 12) + "x", many("abbbb", 12));
            shows(x, lens, many("a", 13) + "x", null);
            puts(x, lens, "abbbb", many("a", 12) + "x", "ax");
            makes(x, lens, many("abbbb", 12), many("a", 12) + "x");
        }
        puts(x, 0, "abbbb", many("a", 13) + "x", "ax");
        puts(x, 1, "abbbb", many("a", 13) + "x", null);
    }

    /** Each of the eight lenses is "then" and has the one ahead of it as a part; none can be made simpler. */
    private static void eightDeep() {
        PutBack x = Calls.with("a=copy[a]*.ins\"b\"then copy[a]*.del\"b\"\"b\"");
        String rest = "copy[a]*";
        for (int i = 1; i < 8; i++) {
            char c = (char) ('a' + i);
            char before = (char) (c - 1);
            rest = rest + ".copy[" + i + "]";
            Told.taken(x, c + "=" + before + ".copy[" + i + "].ins\"b\"then " + rest + ".del\"b\"\"b\"");
        }
        String most = many("a", 52) + "1234567";
        shows(x, 7, most, most);
        puts(x, 7, most, "1234567", most);
        puts(x, 7, "1234567", most, "1234567");
        makes(x, 7, most, most);
        shows(x, 7, "a" + most, null);
        puts(x, 7, "a" + most, "1234567", null);
        puts(x, 7, "1234567", "a" + most, null);
        makes(x, 7, "a" + most, null);
    }

    /** What a part SHOWS whose KEY is asked may not be longer than 60, be it put into or not. */
    private static void shownOfKeys() {
        for (int more = 0; more <= 1; more++) {
            String part = "(key[a].(copy[b].ins\"c\")*.copy[;]" + many(".ins\"-\"", more) + ")";
            PutBack x = Calls.with("d=dict" + part, "s=" + part + "*");
            // 2 + 2 * 29 and one more.
            String source = "a" + many("b", 29) + ";";
            String view = "a;" + many("-", more);
            puts(x, 0, "", source, more == 0 ? "" : null);
            puts(x, 0, view, source, more == 0 ? "a;" : null);
            puts(x, 0, view, "a;" + source, more == 0 ? "a;" : null);
            puts(x, 0, view, "a;a" + many("b", 28) + ";", "a;");
            makes(x, 0, view, "a;");
            puts(x, 1, "", source, "");
            puts(x, 1, view, "a;" + source, "a;");
            Calls.say(x, 0, "a;" + source);
            Calls.say(x, 1, view);
            Calls.due("18 KEYS are asked", x.aligned(0, 1, 0, 0), more == 0 ? 0 : NONE);
            Calls.due("18 no KEYS are asked", x.aligned(1, 1, 0, 0), 0);
            Calls.say(x, 0, source);
            Calls.due("21 open", x.open(0, 0), more == 0 ? 60 : NONE);
        }
    }

    /** Promise 17: how many; none, one, sixty. */
    private static void parts() {
        PutBack x = Calls.with("s=(copy[a].del[0-9]*\"7\")*", "d=dict(key[a-c]*.ins\";\".copy[,/])", "n=((copy[a])*.copy[b])*");
        for (int many : new int[] {0, 1, 2, 59, 60}) {
            Calls.say(x, 0, many("a", many));
            Calls.due("17 of " + many, x.parts(0, 0), many);
        }
        Calls.say(x, 0, "a7");
        Calls.stays(x, "17 no VIEW", () -> x.parts(0, 0));
        Calls.say(x, 0, many(";,", 30));
        Calls.due("17 of 30", x.parts(1, 0), 30);
        Calls.say(x, 0, "abc;,;/cc;,");
        Calls.due("17 of 3", x.parts(1, 0), 3);
        Calls.say(x, 0, "abc,/cc,");
        Calls.due("17 a SOURCE", x.parts(1, 0), NONE);
        // The outermost ones.
        Calls.say(x, 0, "aabbab");
        Calls.due("17 outermost", x.parts(2, 0), 3);
        Calls.say(x, 0, "aabba");
        Calls.due("17 no VIEW", x.parts(2, 0), NONE);
        Calls.say(x, 0, "");
        Wrong.lens(x, "17", n -> x.parts(n, 0));
        Wrong.slot(x, "17", n -> x.parts(0, n));
    }

    /** Of a lens that is such; A then B: of B. */
    private static void partsOfKinds() {
        String[] told = {"(copy[a])*", "dict(key[a])", "((copy[a])*)", "(copy[a])*then(copy[a])*", "copy[a]*then(copy[a])*",
            "(copy[a])*then copy[a]*", "copy[a]*", "(copy[a])*.ins\"\"", "ins\"\".(copy[a])*", "swap((copy[a])*,ins\"\")",
            "(copy[a])*|copy[b]", "(copy[a])*then copy[a]*then dict(key[a])", "(copy[a])*then(copy[a])*.ins\"\"", "(copy[a].copy[a])*"};
        int[] want = {2, 2, 2, 2, 2, NONE, NONE, NONE, NONE, NONE, NONE, 2, NONE, 1};
        for (int i = 0; i < told.length; i++) {
            PutBack x = Calls.with("p=" + told[i], "q=p", "r=(p)", "s=p then p");
            Calls.say(x, 0, "aa");
            for (int lens = 0; lens < 4; lens++) {
                Calls.due("17 " + told[i] + " " + lens, x.parts(lens, 0), want[i]);
                Calls.due("19 " + told[i] + " " + lens, x.key(lens, 0, 0, 1), want[i] == NONE ? NONE : told[i].endsWith("dict(key[a])") ? 1 : 0);
            }
        }
    }

    /** A then B: of B, which may be "then" itself, eight times. */
    private static void partsOfEightThens() {
        PutBack x = Calls.with("a=copy[a]*then dict(key[a])");
        for (int i = 1; i < 8; i++) {
            Told.taken(x, (char) ('a' + i) + "=copy[a]*then " + (char) ('a' + i - 1));
        }
        Calls.say(x, 0, "aaa");
        for (int lens = 0; lens < 8; lens++) {
            Calls.due("17 of " + lens, x.parts(lens, 0), 3);
            Calls.due("19 of " + lens, x.key(lens, 0, 2, 1), 1);
            Calls.due("19 of " + lens, x.key(lens, 0, 3, 1), NONE);
            Calls.due("18 of " + lens, x.aligned(lens, 0, 0, 0), NONE);
        }
    }

    /** Promise 18: part i of a VIEW; -2 if it is MADE ANEW. */
    private static void aligned() {
        PutBack x = Calls.with("s=(key[a-c].del[0-9]\"7\")*", "d=dict(key[a-c].del[0-9]\"7\")");
        Calls.say(x, 0, "a1b2a3");
        Calls.say(x, 1, "aabca");
        int[][] due = {{0, 1, 2, ANEW, ANEW}, {0, 2, 1, ANEW, ANEW}};
        for (int lens = 0; lens < 2; lens++) {
            int which = lens;
            for (int i = 0; i < 5; i++) {
                Calls.due("18 part " + i, x.aligned(lens, 1, 0, i), due[lens][i]);
            }
            Wrong.number(x, "18", 0, 4, n -> x.aligned(which, 1, 0, n));
            Wrong.slot(x, "18 view", n -> x.aligned(which, n, 0, 0));
            Wrong.slot(x, "18 source", n -> x.aligned(which, 1, n, 0));
            Calls.stays(x, "18 no VIEW", () -> x.aligned(which, 0, 0, 0));
            Calls.stays(x, "18 no SOURCE", () -> x.aligned(which, 1, 1, 0));
            Calls.stays(x, "18 no part of an empty VIEW", () -> x.aligned(which, 2, 0, 0));
            Calls.due("18 an empty SOURCE", x.aligned(lens, 1, 2, 4), ANEW);
        }
        Wrong.lens(x, "18", n -> x.aligned(n, 1, 0, 0));
        Calls.say(x, 0, many("a5", 30));
        Calls.say(x, 1, many("a", 60));
        for (int i = 0; i < 60; i++) {
            Calls.due("18 of sixty " + i, x.aligned(0, 1, 0, i), i < 30 ? i : ANEW);
            Calls.due("18 of sixty " + i, x.aligned(1, 1, 0, i), i < 30 ? i : ANEW);
        }
        Calls.due("18 of sixty", x.aligned(1, 1, 0, 60), NONE);
    }

    /** NONE as in parts(), or if it is A then B. */
    private static void alignedOfKinds() {
        String[] told = {"(copy[a])*", "((copy[a])*)", "dict(key[a])", "(copy[a])*then(copy[a])*", "copy[a]*", "(copy[a])*.ins\"\"", "(copy[a])*|copy[b]"};
        int[] want = {0, 0, 0, NONE, NONE, NONE, NONE};
        for (int i = 0; i < told.length; i++) {
            PutBack x = Calls.with("p=" + told[i], "q=p", "r=((p))", "s=p then p");
            Calls.say(x, 0, "a");
            for (int lens = 0; lens < 4; lens++) {
                Calls.due("18 " + told[i] + " " + lens, x.aligned(lens, 0, 0, 0), lens == 3 ? NONE : want[i]);
            }
        }
    }

    /** Promise 19: KEY of part i; of 60 SYMBOLS, of none. */
    private static void key() {
        PutBack x = Calls.with("d=dict(key[a]*.copy[;])", "s=(key[a]*.key[;])*", "n=(copy[a])*");
        for (int length : new int[] {0, 1, 58, 59}) {
            Calls.say(x, 0, many("a", length) + ";");
            Calls.due("19 of " + length, x.key(0, 0, 0, 1), length);
            Calls.due("19 of " + length, Calls.read(x, 1), many("a", length));
            Calls.due("19 of " + length, x.key(1, 0, 0, 1), length + 1);
            Calls.due("19 of " + length, Calls.read(x, 1), many("a", length) + ";");
        }
        Calls.say(x, 0, "a;;aa;");
        int[] lengths = {1, 0, 2};
        for (int i = 0; i < 3; i++) {
            Calls.due("19 part " + i, x.key(0, 0, i, 1), lengths[i]);
        }
        Wrong.number(x, "19", 0, 2, n -> x.key(0, 0, n, 1));
        Wrong.lens(x, "19", n -> x.key(n, 0, 0, 1));
        Wrong.slot(x, "19", n -> x.key(0, n, 0, 1));
        Wrong.slot(x, "19 into", n -> x.key(0, 0, 0, n));
        Calls.stays(x, "19 no part of an empty VIEW", () -> x.key(0, 3, 0, 1));
        Calls.stays(x, "19 no VIEW", () -> x.key(2, 0, 0, 1));
        Calls.say(x, 1, "stays");
        Calls.say(x, 2, "aa");
        Calls.due("19 without key UNITS", x.key(2, 2, 1, 1), 0);
        Calls.due("19 without key UNITS", Calls.read(x, 1), "");
        Calls.due("19 no part", x.key(2, 2, 2, 1), NONE);
        Calls.due("19 into itself", x.key(0, 0, 2, 0), 2);
        Calls.due("19 into itself", Calls.read(x, 0), "aa");
    }

    private static void keyed(String told, String view, int i, String want) {
        PutBack x = Calls.with("u=copy[a-c].key[0-9]then key[a-c].copy[0-9]", "p=" + told);
        Calls.say(x, 0, view);
        Calls.due("19 " + told, x.key(1, 0, i, 1), want.length());
        Calls.due("19 " + told, Calls.read(x, 1), want);
    }

    /** From the left in the VIEW; a dict within aside; of then those of B; of branches with V the same those of A. */
    private static void keyOfKinds() {
        keyed("dict(swap(key[a],key[b]))", "baba", 1, "ba");
        keyed("dict(key[a].copy[b].key[c])", "abc", 0, "ac");
        keyed("dict(key[a].dict(key[b]).key[c])", "abbc", 0, "ac");
        keyed("dict(key[a].(key[b])*.key[c])", "abbc", 0, "abbc");
        keyed("(copy[a].dict(key[b]))*", "abb", 0, "");
        keyed("dict(u)", "a1b2", 1, "b");
        keyed("(u)*", "a1b2", 0, "a");
        keyed("dict(key[a]|copy[b])", "ab", 0, "a");
        keyed("dict(key[a]|copy[b])", "ab", 1, "");
        keyed("dict(key[a].copy[b]|del[x]\"x\".copy[a].key[b])", "ab", 0, "a");
        keyed("(copy[a].copy[b]|del[x]\"x\".copy[a].key[b])*", "ab", 0, "");
        keyed("(copy[a])*then dict(key[a])", "aa", 1, "a");
        keyed("dict(key[a])then(copy[a])*", "aa", 1, "");
        keyed("dict(key[a].ins\"b\".key[c])", "abc", 0, "ac");
    }

    /** Promise 20: kind 0 .. 3, n 1 .. 5. */
    private static void laws() {
        PutBack x = Calls.with("p=copy[a-z].del[0-9]\"0\"");
        Calls.say(x, 0, "a0");
        Calls.say(x, 3, "stays");
        for (int kind = 0; kind < 4; kind++) {
            int which = kind;
            for (int n = 1; n <= 5; n++) {
                Calls.due("20 " + kind + " " + n, x.laws(0, kind, n), 0);
            }
            Wrong.number(x, "20 n", 1, 5, n -> x.laws(0, which, n));
            Wrong.lens(x, "20", n -> x.laws(n, which, 1));
        }
        for (int n = 1; n <= 5; n++) {
            int tried = n;
            Wrong.number(x, "20 kind", 0, 3, kind -> x.laws(0, kind, tried));
        }
        Calls.due("20 leaves slots", Calls.read(x, 3), "stays");
    }

    /** Fewer if there are not so many; none at all of 20 SYMBOLS at most. */
    private static void lawsOfFew() {
        PutBack x = Calls.with("p=copy[a].del[0-9]\"5\"|copy[b].del[0-9]\"5\"", "q=copy(" + TWENTY + "[a])", "r=copy[a-b].del(" + TWENTY + "[a]|[0])\"0\"",
            "s=copy[a].del[0-1]\"1\"|copy[b].del[0-1]\"1\"", "t=copy\"\"", "u=del(" + TWENTY + "[a])?\"\".copy[a]");
        for (int n = 1; n <= 5; n++) {
            // a0 .. a4 and b: of those with b put back, the digit is 5 behind that.
            Calls.due("20 twice " + n, x.laws(0, 2, n), n >= 2 ? n : 0);
            // a0, a1, b0, b1: those with 0 lose it.
            Calls.due("20 all four " + n, x.laws(3, 2, n), n == 1 ? 0 : n == 2 ? 1 : 2);
            for (int kind = 0; kind < 4; kind++) {
                Calls.due("20 none " + kind + " " + n, x.laws(1, kind, n), 0);
                Calls.due("20 few " + kind + " " + n, x.laws(2, kind, n), 0);
                Calls.due("20 the empty TEXT " + kind + " " + n, x.laws(4, kind, n), 0);
                Calls.due("20 one " + kind + " " + n, x.laws(5, kind, n), 0);
            }
        }
    }

    /** How many don't hold: each c; each c, each v; each c, v, w; each v. */
    private static void lawsBroken() {
        PutBack x = Calls.with("p=(copy[a].del[0-1]\"1\")*", "q=(copy[a].ins" + TWENTY + ".ins" + TWENTY + ")*");
        // "", a0, a1, .. by "", a, aa, ..: what has 0 loses it when its part goes and comes again.
        Calls.due("20 twice", x.laws(0, 2, 1), 0);
        Calls.due("20 twice", x.laws(0, 2, 2), 1);
        Calls.due("20 twice", x.laws(0, 2, 3), 2);
        // "" and a alone show at most 60: aa, aaa, aaaa don't; the views of 0, 41, 82 and so on: two are of 20 at most.
        Calls.due("20 shown", x.laws(1, 0, 5), 3);
        Calls.due("20 shown", x.laws(1, 0, 2), 0);
        Calls.due("20 shown", x.laws(1, 0, 3), 1);
        Calls.due("20 put", x.laws(1, 1, 5), 0);
        Calls.due("20 anew", x.laws(1, 3, 5), 0);
    }

    /** What would be a TEXT of more than 60 SYMBOLS counts as one that doesn't. */
    private static void lawsOfSixty() {
        String fourteen = "\"" + many("b", 14) + "\"";
        PutBack x = Calls.with("p=(copy[a].ins" + fourteen + ")*", "q=p.ins\"c\"", "r=p then(copy[a].del" + fourteen + fourteen + ")*",
            "s=q then(copy[a].del" + fourteen + fourteen + ")*.del\"c\"\"c\"");
        // aaaa shows 60 symbols, or 61: by itself, and in the midst.
        for (int lens = 0; lens < 4; lens++) {
            Calls.due("20 shown " + lens, x.laws(lens, 0, 4), 0);
            Calls.due("20 shown " + lens, x.laws(lens, 0, 5), lens % 2);
        }
        for (int kind = 1; kind < 4; kind++) {
            Calls.due("20 in the midst " + kind, x.laws(2, kind, 5), 0);
            Calls.due("20 in the midst " + kind, x.laws(3, kind, 4), 0);
        }
        // Of 5 c and 5 v, each that is aaaa; of these and 5 w too; of 5 v.
        Calls.due("20 put", x.laws(3, 1, 5), 25 - 16);
        Calls.due("20 twice", x.laws(3, 2, 5), 125 - 64);
        Calls.due("20 anew", x.laws(3, 3, 5), 1);
        for (int more = 0; more <= 2; more++) {
            x = Calls.with("p=copy[a]*.del[b]*" + TWENTY + ".del[c]*\"" + many("c", 20) + "\".del[d]*\"" + many("d", 16 + more) + "\"");
            // What is made of aaaa has 60 symbols, or as many more.
            Calls.due("20 anew", x.laws(0, 3, 5), more);
            Calls.due("20 anew", x.laws(0, 3, 4), more == 2 ? 1 : 0);
        }
    }

    /** The least TEXTS of all count, too; and a TEXT that differs by its first SYMBOL, by its last one. */
    private static void lawsOfTheLeast() {
        String one = "ins\"a\".copy[a]*|del\"b\"\"b\".copy[b]*";
        PutBack x = Calls.with("a=" + one, "b=a" + many(" then a", 59), "c=b then a", "d=del[0-1]\"1\".copy[a]|del[2-3]\"3\".copy[b]",
            "e=copy[a].del[0-1]\"1\"|copy[b].del[0-1]\"1\"");
        // "", a, b, aa, bb: 60 symbols a come (or 61) or as many b go, where a view is shown; and back where one is made.
        int[] shown = {0, 1, 1, 2, 2};
        int[] made = {0, 0, 1, 1, 2};
        for (int n = 1; n <= 5; n++) {
            Calls.due("20 shown, of 60 " + n, x.laws(1, 0, n), shown[n - 1]);
            Calls.due("20 shown, of 61 " + n, x.laws(2, 0, n), 1 + shown[n - 1]);
            Calls.due("20 made, of 60 " + n, x.laws(1, 3, n), made[n - 1]);
            Calls.due("20 made, of 61 " + n, x.laws(2, 3, n), 1 + made[n - 1]);
        }
        // 0a, 1a by a, b: what was 0a becomes 1a behind b.
        Calls.due("20 by the first SYMBOL", x.laws(3, 2, 2), 1);
        Calls.due("20 by the last SYMBOL", x.laws(4, 2, 2), 1);
    }
}

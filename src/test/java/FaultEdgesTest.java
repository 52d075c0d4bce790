/**
 * SETS and the faults that they make: each case that the document's terms name for faults 4 to 13, with its place and
 * what it is shown by, and the definition right beside it that is taken. Promises 4 and 5.
 */
public final class FaultEdgesTest {
    private static final int NONE = PutBack.NONE;

    private FaultEdgesTest() {
    }

    public static void main(String[] args) {
        sourcesMeet();
        viewsMeet();
        sameViews();
        sourcesRun();
        viewsRun();
        swapsRun();
        rowsFromTheLeft();
        repetitions();
        dicts();
        keys();
        keysOfBranches();
        deletions();
        thens();
        chainsRun();
        choicesMeet();
        unitsRepeat();
        leastOfOnePlace();
        metFirst();
        refusedLens();
        faultOfTheLatest();
        Calls.finish("FaultEdgesTest");
    }

    /** 4, at |: a FIRST POSITION of each with a SYMBOL in common, or the empty TEXT of both. */
    private static void sourcesMeet() {
        Told.taken("a=copy[a-c]|copy[d-f]");
        Told.refused("a=copy[a-c]|copy[c-f]", 4, 11, 'c');
        Told.refused("a=copy[c-f]|copy[a-c]", 4, 11, 'c');
        Told.refused("a=copy[a-z]|copy[x;m,]", 4, 11, 'm');
        Told.refused("a=copy[ -z]|copy[ -z]", 4, 11, ' ');
        Told.refused("a=copy[;a]|copy[a;]", 4, 10, ';');
        // Not what stands behind the FIRST ones.
        Told.taken("a=copy\"ab\"|copy\"bb\"");
        Told.refused("a=copy\"ab\"|copy\"ac\"", 4, 10, 'a');
        Told.refused("a=copy([a]?[b])|copy[b]", 4, 15, 'b');
        Told.taken("a=copy([a]?[b])|copy[c]");
        Told.refused("a=copy([a]*[b]*[c])|copy\"cd\"", 4, 19, 'c');
        // The empty TEXT of both, of one alone.
        Told.refused("a=copy\"\"|copy\"\"", 4, 8, 0);
        Told.refused("a=copy[a]?|copy[b]?", 4, 10, 0);
        Told.refused("a=copy[a]*|ins\"b\"", 4, 10, 0);
        Told.refused("a=ins\"a\"|ins\"b\"", 4, 8, 0);
        Told.taken("a=copy[a]?|copy[b]");
        Told.taken("a=copy[a]|copy[b]*");
        // Both: the SYMBOL shows it.
        Told.refused("a=copy[a-b]?|copy[b-c]?", 4, 12, 'b');
        // From the left, and from within.
        Told.refused("a=copy[a]|copy[b]|copy[a]", 4, 17, 'a');
        Told.refused("a=copy[a]|copy[b]|copy[b]", 4, 17, 'b');
        Told.refused("a=copy[a]|(copy[b]|copy[b])", 4, 18, 'b');
        Told.refused("a=copy[a]|(copy[b]|copy[a])", 4, 9, 'a');
        Told.refused("a=copy[a]?|copy[b]|ins\"\"", 4, 18, 0);
        Told.refused("a=copy[x].(copy[a]|copy[a])", 4, 18, 'a');
    }

    /** 5, at |: V MEET and aren't the same. */
    private static void viewsMeet() {
        Told.taken("a=del[0]\"0\".copy[a-b]|del[1]\"1\".copy[c-d]");
        Told.refused("a=del[0]\"0\".copy[a-b]|del[1]\"1\".copy[b-c]", 5, 21, 'b');
        Told.refused("a=del[0]\"0\".copy[a-b]|del[1]\"1\".copy[b]", 5, 21, 'b');
        Told.refused("a=copy[a]|ins\"a\".copy[b]", 5, 9, 'a');
        Told.refused("a=copy[a-z]|ins\"x\"", 5, 11, 'x');
        Told.taken("a=copy[a]|ins\"b\"");
        // By the empty TEXT.
        Told.refused("a=del[a]\"a\"|copy[b]?", 5, 11, 0);
        Told.refused("a=copy[b]?|del[a]\"a\"", 5, 10, 0);
        Told.taken("a=copy[b]|del[a]\"a\"");
        Told.refused("a=copy[b]?|del[a]\"a\".copy[c]?", 5, 10, 0);
        // From the left.
        Told.refused("a=copy[a]|copy[b]|del[c]\"c\".ins\"b\"", 5, 17, 'b');
        Told.refused("a=copy[a]|(copy[b]|del[c]\"c\".ins\"b\".ins\"b\")", 5, 18, 'b');
        Told.refused("a=copy[a]|(copy[b]|del[c]\"c\".ins\"a\")", 5, 9, 'a');
    }

    /** V the same SETS, whatever their POSITIONS are: V is that of the first one then. */
    private static void sameViews() {
        PutBack x = Calls.with("a=del[0]\"0\".copy[a-b]|del[1]\"1\".copy(\"a\"|\"b\")", "b=del[1]\"1\".copy(\"a\"|\"b\")|del[0]\"0\".copy[a-b]",
            "c=del[a]\"a\"|del[b]\"b\"|del[c]\"c\"", "d=del[0]\"0\".copy[a]*|del[1]\"1\".copy([a][a]*)?",
            "e=copy[a]|copy[b]|del[0]\"0\".copy[a-b]", "f=copy[a]|copy[b]|(del[0]\"0\".copy[a-b]|del[1]\"1\".copy[a-b])");
        int[] views = {1, 2, 0, 1, 2, 2};
        int[] sources = {5, 5, 3, 5, 4, 6};
        for (int lens = 0; lens < 6; lens++) {
            Calls.due("5 V of " + lens, x.set(lens, 1, 0), views[lens]);
            Calls.due("5 S of " + lens, x.set(lens, 0, 0), sources[lens]);
        }
        // All but one TEXT the same.
        Told.refused("a=del[0]\"0\".copy[a]*|del[1]\"1\".copy[a]+", 5, 20, 'a');
        Told.refused("a=del[0]\"0\".copy[a-b]|del[1]\"1\".copy[a-c]", 5, 21, 'a');
        Told.refused("a=del[0]\"0\".copy(\"aaaaaaaa\"[a-b])|del[1]\"1\".copy(\"aaaaaaaa\"[a])", 5, 33, 'a');
        // B and C have the same, but A does not.
        Told.taken("a=copy[a]|(del[0]\"0\".copy[b]|del[1]\"1\".copy[b])");
        Told.refused("a=copy[a]|copy[b]|del[1]\"1\".copy[b]", 5, 17, 'b');
    }

    /** 6, at . : behind a LAST POSITION, or by the empty TEXT. */
    private static void sourcesRun() {
        Told.taken("a=copy\"a\".copy\"a\"");
        Told.taken("a=copy[a]*.copy[b]");
        Told.refused("a=copy[a]*.copy[a]", 6, 10, 'a');
        Told.refused("a=copy[a]+.copy[a]", 6, 10, 'a');
        Told.refused("a=copy[a]?.copy[a]", 6, 10, 'a');
        Told.taken("a=copy[a]?.copy\"ba\"");
        Told.refused("a=copy(\"x\"[a]?).copy[a]", 6, 15, 'a');
        Told.taken("a=copy(\"x\"[a]).copy[a]");
        Told.taken("a=copy(\"x\"[a]?).copy[x]");
        Told.refused("a=copy\"ab\"*.copy\"a\"", 6, 11, 'a');
        Told.taken("a=copy\"ab\"*.copy\"b\"");
        Told.refused("a=copy\"ab\"+.copy\"ac\"", 6, 11, 'a');
        // The least SYMBOL, by both ways.
        Told.refused("a=copy[c-z]*.copy[a-g]", 6, 12, 'c');
        Told.refused("a=copy[ -z]*.copy[z;]", 6, 12, ';');
        Told.refused("a=copy(\"p\"[z]?)?.copy[pz]", 6, 16, 'p');
        Told.refused("a=copy(\"z\"[p]?)?.copy[pz]", 6, 16, 'p');
        Told.refused("a=copy(\"z\"[p]?)?.copy[z]", 6, 16, 'z');
        Told.refused("a=copy(\"z\"[p]?).copy[pz]", 6, 15, 'p');
        // What has the empty TEXT alone runs into nothing; nothing runs into it.
        Told.taken("a=copy[a]*.copy\"\"");
        Told.taken("a=copy\"\".copy[a]*");
        Told.taken("a=copy\"\".copy\"\"");
        Told.taken("a=del[a]*\"\".ins\"a\"");
        // FIRST ones of what comes behind, also behind what may be empty there.
        Told.refused("a=copy[a]*.copy([b]?[a])", 6, 10, 'a');
        Told.taken("a=copy[a]*.copy([b][a]?)");
    }

    /** 7, at . */
    private static void viewsRun() {
        Told.taken("a=copy[a]*.ins\"b\"");
        Told.refused("a=copy[a]*.ins\"a\"", 7, 10, 'a');
        Told.refused("a=copy[a]?.ins\"ab\"", 7, 10, 'a');
        Told.taken("a=ins\"a\".copy[a]*");
        Told.taken("a=copy[a]*.del[x]\"x\"");
        Told.refused("a=copy[a]*.del[x]\"x\".copy[a]", 7, 20, 'a');
        Told.taken("a=copy[a]*.del[x]\"x\".ins\"-\".copy[a]");
        Told.refused("a=copy[a-z]*.del[0]\"0\".copy[m-p]", 7, 22, 'm');
        // S at the same place goes ahead.
        Told.refused("a=copy[a]*.copy[a]", 6, 10, 'a');
        Told.refused("a=copy[b]*.del[0]*\"0\".(del[0]\"0\".copy[b])", 6, 21, '0');
        Told.refused("a=copy[b]*.del[0]*\"0\".(del[1]\"1\".copy[b])", 7, 21, 'b');
    }

    /** 6 and 7 of swap, at its word: S of A into that of B, V of B into that of A. */
    private static void swapsRun() {
        Told.taken("a=swap(copy\"a\",copy\"a\")");
        Told.refused("a=swap(copy[a]*,copy[a])", 6, 2, 'a');
        Told.refused("a=swap(copy\"a\",copy[a]?)", 7, 2, 'a');
        Told.refused("a=swap(copy[a],copy[a]*)", 7, 2, 'a');
        Told.refused("a=swap(copy[a]?,copy[a]?)", 6, 2, 'a');
        Told.taken("a=swap(copy[a]*,copy[b]*)");
        Told.refused("a=ins\"\".swap(copy[a]*,copy[a])", 6, 8, 'a');
        Told.taken("a= swap (copy[a]*.del[b]\"b\",copy[a])");
        Told.refused("a= swap (copy[a],copy[a]*.del[b]\"b\")", 7, 3, 'a');
        Told.taken("a=swap(copy[a],copy[b]*.del[a]\"a\")");
        Told.refused("a=swap(copy[b],copy[b]*.del[a]\"a\")", 7, 2, 'b');
        // Met behind its ")", not ahead of that.
        Told.refused("a=swap(copy[a]*,copy[a]", 1, 23, NONE);
        Told.refused("a=swap(copy[a]*,copy[a])!", 6, 2, 'a');
    }

    /** A . B . C is A . B, then C. */
    private static void rowsFromTheLeft() {
        Told.refused("a=copy[x].copy[a]?.copy[a]", 6, 18, 'a');
        Told.refused("a=copy[a]?.copy[b]?.copy[a]", 6, 19, 'a');
        Told.refused("a=copy[a]?.(copy[b]?.copy[a])", 6, 10, 'a');
        Told.taken("a=copy[a]?.copy[b].copy[a]");
        Told.taken("a=copy[a]*.copy[b]*.copy[c]*");
        Told.refused("a=copy[a]*.copy[b]*.copy[c]*.copy[b]", 6, 28, 'b');
        Told.refused("a=copy[a]*.copy[a].nope", 6, 10, 'a');
    }

    /** 8 and 9, at *: the empty TEXT, or RUN INTO itself. */
    private static void repetitions() {
        Told.taken("a=(copy[a])*");
        Told.refused("a=(copy\"\")*", 8, 10, 0);
        Told.refused("a=(ins\"a\")*", 8, 10, 0);
        Told.refused("a=(del[a]?\"\".ins\"x\")*", 8, 20, 'a');
        Told.refused("a=(copy[a]?)*", 8, 12, 'a');
        Told.refused("a=(copy[b-c]+)*", 8, 14, 'b');
        Told.taken("a=(copy[a]+.copy[b])*");
        Told.refused("a=(copy[b].copy[a-b]*)*", 8, 22, 'b');
        Told.taken("a=(copy[b].copy[a]*)*");
        Told.refused("a=(copy[a].copy[ab]?)*", 8, 21, 'a');
        Told.refused("a=(copy[a]|copy[b].copy[a]?)*", 8, 28, 'a');
        // 9: V alone.
        Told.refused("a=(del[a]\"a\")*", 9, 13, 0);
        Told.refused("a=(copy[a]|del[b]\"b\")*", 9, 21, 'a');
        Told.refused("a=(del[,]\",\".copy[x-z]?)*", 9, 24, 'x');
        Told.refused("a=(del[,]\",\".copy[x-z]+)*", 9, 24, 'x');
        Told.taken("a=(del[,]\",\".copy[x-z])*");
        Told.taken("a=(copy[x-z]+.del[,]\",\".ins\";\")*");
        // Both: S goes ahead.
        Told.refused("a=(del[a]?\"\")*", 8, 13, 'a');
        Told.refused("a=(copy\"\")* !", 8, 10, 0);
        PutBack x = Calls.with("b=copy[a]", "c=b*");
        Told.taken(x, "d=b*");
        Told.refused(x, "e=c *", 8, 4, 'a');
    }

    /** 8, 9 and 11, at the word dict. */
    private static void dicts() {
        Told.taken("a=dict(key[a])");
        Told.refused("a=dict(key\"\")", 8, 2, 0);
        Told.refused("a=dict key[a]*", 8, 2, 'a');
        Told.refused("a=ins\"\". dict(key[a]+)", 8, 9, 'a');
        Told.refused("a=dict(del[,]\",\".key[x-z]*)", 9, 2, 'x');
        Told.refused("a=dict(key\"\".del[a]\"a\")", 9, 2, 0);
        Told.refused("a=dict(copy[a])", 11, 2, NONE);
        Told.refused("a=dict(copy[a]*)", 8, 2, 'a');
        Told.refused("a=dict(del[a]\"a\")", 9, 2, 0);
        Told.refused("a=dict(del[a]\"a\".ins\"b\")", 11, 2, NONE);
        Told.refused("a=dict copy[a]", 11, 2, NONE);
        Told.refused("a=dict(copy[a]) !", 11, 2, NONE);
        // A dict may have the empty TEXT and be repeated no more, but stand in a row.
        Told.taken("a=dict(key[a]).copy[b]");
        Told.refused("a=dict(key[a]).copy[a]", 6, 14, 'a');
        Told.refused("a=dict(key[a])|ins\"b\"", 4, 14, 0);
    }

    /** A key that is in no dict within. */
    private static void keys() {
        PutBack x = Calls.with("d=dict(key[a])", "k=key[a]", "c=copy[a]", "kc=k then c", "ck=c then k");
        Told.refused(x, "p=dict(copy[x].d)", 11, 2, NONE);
        Told.refused(x, "p=dict(copy[x].(copy[y].d)*)", 11, 2, NONE);
        Told.refused(x, "p=dict(copy[x].dict(key[b]))", 11, 2, NONE);
        Told.refused(x, "p=dict(copy[x].dict(copy[b]))", 11, 15, NONE);
        Told.refused(x, "p=dict kc", 11, 2, NONE);
        Told.refused(x, "p=dict c", 11, 2, NONE);
        Told.taken(x, "p=dict ck");
        Told.taken(x, "q=dict(key[x].d)");
        Told.taken(x, "r=dict k");
        for (String with : new String[] {"copy[x].(key[a])*", "swap(copy[x],key[a])", "copy[x].key\"\"", "copy[x].key[a]?",
            "copy[x]|key[a]", "key[a]|copy[x]", "((key[a]))", "copy[x].(copy[a]|key[b])*.copy[y]", "dict(key[a]).key[x]"}) {
            Told.taken("a=dict(" + with + ")");
            Told.refused("a=dict(" + with.replace("key", "copy").replace("dict(copy", "dict(key") + ")", 11, 2, NONE);
        }
    }

    /** Of A | B with V the same those of A; else of both. */
    private static void keysOfBranches() {
        Told.taken("a=dict(key[a]|del[c]\"c\".copy[a])");
        Told.refused("a=dict(copy[a]|del[c]\"c\".key[a])", 11, 2, NONE);
        Told.taken("a=dict(copy[a]|del[c]\"c\".key[b])");
        Told.taken("a=dict(copy[a]|del[c]\"c\".copy[a]|key[x])");
        Told.taken("a=dict(copy[a]|copy[b]|del[c]\"c\".key[x])");
        Told.refused("a=dict(copy[a]|copy[b]|del[c]\"c\".key[a-b])", 11, 2, NONE);
        Told.taken("a=dict(copy[a]|key[b]|del[c]\"c\".copy[a-b])");
        Told.refused("a=dict(copy[a]|del[c]\"c\".key[a]|copy[x])", 11, 2, NONE);
        Told.taken("a=dict(copy[a]|(key[b]|del[c]\"c\".copy[b]))");
        Told.refused("a=dict(copy[a]|(copy[b]|del[c]\"c\".key[b]))", 11, 2, NONE);
    }

    /** 10, at t. */
    private static void deletions() {
        Told.taken("a=del[a]\"a\"");
        Told.refused("a=del[a]\"b\"", 10, 8, NONE);
        Told.refused("a=del[a]\"\"", 10, 8, NONE);
        Told.refused("a=del[a]  \"aa\"", 10, 10, NONE);
        Told.taken("a=del[a]?\"\"");
        Told.taken("a=del[a]?\"a\"");
        Told.refused("a=del[a]?\"aa\"", 10, 9, NONE);
        Told.refused("a=del[a]+\"\"", 10, 9, NONE);
        Told.taken("a=del[a]+\"aaaaaaaaaaaaaaaaaaaa\"");
        Told.taken("a=del\"\"\"\"");
        Told.refused("a=del\"\"\"a\"", 10, 7, NONE);
        Told.refused("a=del\"ab\"\"a\"", 10, 9, NONE);
        Told.refused("a=del\"ab\"\"abc\"", 10, 9, NONE);
        Told.taken("a=del(\"ab\"|[c]*)\"ccc\"");
        Told.refused("a=del(\"ab\"|[c]*)\"abc\"", 10, 16, NONE);
        // What can't stand within it is met ahead of that it isn't of U.
        Told.cant("a=del[a]\"b!\"", 10);
        Told.cant("a=del[a]\"bbbbbbbbbbbbbbbbbbbbb\"", 29);
        Told.cant("a=del[a]\"b", 10);
        Told.refused("a=del[a]\"b\"!", 10, 8, NONE);
        Told.refused("a=copy[x]*.del[x]\"b\"", 10, 17, NONE);
    }

    /** 12, at then: V of A and S of B are not the same SETS. */
    private static void thens() {
        Told.taken("a=copy[a]+then copy([a][a]*)");
        Told.refused("a=copy[a]+then copy[a]*", 12, 10, NONE);
        Told.refused("a=copy[a]*then copy[a]+", 12, 10, NONE);
        Told.refused("a=copy[a]then copy[a-b]", 12, 9, NONE);
        Told.taken("a=copy[a-b]then copy(\"a\"|\"b\")");
        Told.taken("a=del[a]\"a\"then ins\"b\"then copy\"b\"then del[b]\"b\"then ins\"\"");
        Told.refused("a=del[a]\"a\"then copy[a]", 12, 11, NONE);
        // From the left: of what A shows, not of what it is shown of.
        Told.taken("a=copy[a].ins\"b\"then copy\"ab\"");
        Told.refused("a=copy[a].ins\"b\"then copy[a]", 12, 16, NONE);
        Told.refused("a=copy[a]then copy[a].ins\"b\"then copy[a]", 12, 28, NONE);
        Told.refused("a=copy[a]then copy[b]then copy[b]", 12, 9, NONE);
        Told.refused("a=copy[a] then copy[b] then nope", 12, 10, NONE);
        Told.refused("a=copy[a]then copy[b].copy[c]", 12, 9, NONE);
        Told.taken("a=copy[b].copy[c]then copy[b].copy[c]");
        Told.taken("a=copy[b]|copy[c]then copy[b]|copy[c]");
        // One TEXT of 60 SYMBOLS is of one alone.
        String most = "\"aaaaaaaaaaaaaaaaaaaa\"\"aaaaaaaaaaaaaaaaaaaa\"\"aaaaaaaaaaaaaaaaaaa\"";
        Told.taken("a=copy(" + most + "[a])then copy(" + most + "\"a\")");
        Told.refused("a=copy(" + most + "[a])then copy(" + most + "[a-b])", 12, 7 + 65 + 4, NONE);
        Told.refused("a=copy(" + most + "[a])then copy(" + most + "[a]?)", 12, 7 + 65 + 4, NONE);
    }

    /** 13, at the later UNIT's first token: a CHAIN may not RUN INTO its next UNIT. */
    private static void chainsRun() {
        Told.taken("a=copy(\"a\"\"a\")");
        Told.refused("a=copy([a]*[a])", 13, 11, 'a');
        Told.refused("a=copy([a]* [a])", 13, 12, 'a');
        Told.refused("a=copy([a]?\"ab\")", 13, 11, 'a');
        Told.refused("a=copy([a]*(\"b\"|[a]))", 13, 11, 'a');
        Told.refused("a=copy([a]?[b]?[a])", 13, 15, 'a');
        Told.taken("a=copy([a]?[b][a])");
        Told.refused("a=copy([x][c-z]*[a-z])", 13, 16, 'c');
        Told.refused("a=copy([a]*[a]*)", 13, 11, 'a');
        Told.refused("a=key([a]*[a])", 13, 10, 'a');
        Told.refused("a=del([a]*[a])\"a\"", 13, 10, 'a');
        // As soon as the later UNIT is read, with its sign.
        Told.refused("a=copy([a]*[a]!", 13, 11, 'a');
        Told.refused("a=copy([a]*[a]*!", 13, 11, 'a');
        Told.refused("a=copy([a]*([a]?)*)", 13, 17, 'a');
        Told.cant("a=copy([a]*[a!", 13);
        Told.taken("a=copy(\"\"[a]*\"\")");
    }

    /** 13, at |: branches may not MEET. */
    private static void choicesMeet() {
        Told.taken("a=copy([a]|[b])");
        Told.refused("a=copy([a]|[a])", 13, 10, 'a');
        Told.refused("a=copy([a-c]|[b-d])", 13, 12, 'b');
        Told.taken("a=copy(\"ab\"|\"bb\")");
        Told.refused("a=copy(\"ab\"|\"ac\")", 13, 11, 'a');
        Told.refused("a=copy(\"\"|\"\")", 13, 9, 0);
        Told.refused("a=copy([a]?|[b]?)", 13, 11, 0);
        Told.refused("a=copy([a]?|[a]?)", 13, 11, 'a');
        Told.taken("a=copy([a]?|[b])");
        Told.refused("a=copy([a]|[b]|[a])", 13, 14, 'a');
        Told.refused("a=copy([a]|[b]|[b])", 13, 14, 'b');
        Told.refused("a=copy([a]|([b]|[b]))", 13, 15, 'b');
        Told.refused("a=copy([a]|([b]|[a]))", 13, 10, 'a');
        // As soon as the later CHAIN is read.
        Told.refused("a=copy([a]|[a]!", 13, 10, 'a');
        Told.refused("a=copy([a]|[a]", 13, 10, 'a');
        Told.refused("a=copy([a]|[a][b]*[b])", 13, 18, 'b');
        Told.cant("a=copy([a]|[a][!", 15);
    }

    /** 13, at * or +: what has it may not RUN INTO itself; the empty TEXT may be of it. */
    private static void unitsRepeat() {
        for (String sign : new String[] {"*", "+"}) {
            Told.taken("a=copy\"\"" + sign);
            Told.taken("a=copy([a][b]?)" + sign);
            Told.refused("a=copy([a]?)" + sign, 13, 12, 'a');
            Told.refused("a=copy([b-c]+)" + sign, 13, 14, 'b');
            Told.refused("a=copy([a][b][a]?)" + sign, 13, 18, 'a');
            Told.refused("a=copy([a][ab]?) " + sign, 13, 17, 'a');
            Told.refused("a=copy(\"\"|[a])" + sign, 13, 14, 'a');
            Told.refused("a=copy(([a]?)" + sign + "!", 13, 13, 'a');
        }
        for (String inner : new String[] {"\"\"", "[a]?", "[a]*", "[a]+", "[a][ab]?"}) {
            Told.taken("a=copy(" + inner + ")?");
        }
        PutBack x = Calls.with("a=copy\"\"*", "b=copy\"\"+", "c=copy[a]+", "d=copy[a]*", "e=copy[a]?");
        int[] empty = {1, 1, 0, 1, 1};
        for (int lens = 0; lens < 5; lens++) {
            Calls.due("the empty TEXT of " + lens, x.set(lens, 0, 3), empty[lens]);
        }
    }

    /** Of one place the least. */
    private static void leastOfOnePlace() {
        Told.refused("a=copy[a]?|ins\"a\".copy[a]?", 4, 10, 'a');
        Told.refused("a=copy[a]?|copy[b]?.ins\"a\"", 4, 10, 0);
        Told.refused("a=(copy[a]*)*", 8, 12, 'a');
        Told.refused("a=dict(copy[a]?)", 8, 2, 'a');
        Told.refused("a=dict(copy[a].del[b]?\"\")", 11, 2, NONE);
        Told.refused("a=dict(copy[a]|del[b]\"b\")", 9, 2, 'a');
        Told.refused("a=swap(copy[a]?,copy[a]?)", 6, 2, 'a');
        // A dict at the word of another one: each at its own.
        Told.refused("a=dict dict(key[a])", 8, 2, 'a');
        Told.refused("a=dict dict(copy[a])", 11, 7, NONE);
        Told.refused("a=dict(copy[x].dict(key[a]))", 11, 2, NONE);
    }

    /** The first that is met as the text is read from the left. */
    private static void metFirst() {
        Told.refused("a=copy[a]|copy[a].nope", 2, 18, NONE);
        Told.refused("a=copy[a]|copy[a]|nope", 4, 9, 'a');
        Told.refused("a=copy[a]|copy[a]then nope", 4, 9, 'a');
        Told.refused("a=copy[a]*.copy[a]*!", 6, 10, 'a');
        Told.refused("a=copy[a]*.copy[a]|nope", 6, 10, 'a');
        Told.refused("a=copy[a]*.(copy[a].nope)", 2, 20, NONE);
        Told.refused("a=copy[a]*.(copy[a]).nope", 6, 10, 'a');
        Told.refused("a=copy[a]*.(copy[b]*.copy[b])", 6, 20, 'b');
        Told.refused("a=copy[a]*.swap(copy[a],nope)", 2, 24, NONE);
        Told.refused("a=(copy[a]|copy[a]", 4, 10, 'a');
        Told.refused("a=(copy[a]*.copy[a]", 6, 11, 'a');
        Told.refused("a=copy([a]|[a])*.copy[a]", 13, 10, 'a');
        Told.refused("a=copy[a]then copy[b]!", 12, 9, NONE);
        Told.refused("a=copy[a]then copy[b]|copy[b]", 4, 21, 'b');
        Told.refused("a=dict(copy[a])then nope", 11, 2, NONE);
        Told.refused("a=dict(copy[a])*", 11, 2, NONE);
        Told.refused("a=copy[a]|copy[a]*", 4, 9, 'a');
        Told.refused("a=copy[a]|(copy[a])*!", 4, 9, 'a');
        Told.refused("a=copy[a]|(copy[a]?)*", 8, 20, 'a');
    }

    /** Promise 4: NONE if there is a FAULT (all stays), but the tape and what fault() tells. */
    private static void refusedLens() {
        PutBack x = Calls.with("b=copy[a-z]*.del[0-9]*\"7\"", "c=copy[a]");
        for (int slot = 0; slot < 7; slot++) {
            Calls.say(x, slot, "a".repeat(slot) + slot);
        }
        Calls.due("21 open", x.open(0, 3), 3);
        Calls.say(x, 0, "xy");
        Calls.due("22 edit", x.edit(1, 1, 0, 0), 6);
        Calls.due("22 refused", x.edit(1, 1, 0, 1), NONE);
        for (String told : new String[] {"", "d", "d=", "c=copy[b]", "d=e", "d=copy[a]*.copy[a]", "d=dict(copy[a])", "d=c then b",
            "d=copy[a]!", "d=" + "(".repeat(13)}) {
            Calls.tape(x, told);
            Calls.stays(x, "4 '" + told + "'", Calls.TAPE | Calls.FAULT, () -> x.lens());
            Calls.due("4 tape", x.look(1), 0);
            Calls.due("5 fault", x.fault(0) > 0, true);
        }
        Calls.due("4 the next number", Calls.define(x, "d=c"), 2);
        Calls.due("4 what is open stays", x.look(2), 0);
        Calls.due("23 undo", x.undo(), true);
        Calls.due("24 source", x.copy(0, 6), 4);
        Calls.due("24 source", Calls.read(x, 6), "aaa3");
    }

    /** Promise 5: of the latest lens(); other calls leave it; NONE for another what. */
    private static void faultOfTheLatest() {
        PutBack x = new PutBack();
        String[] told = {"a=copy[a]*.copy[a]", "b=copy[a]", "  b", "c=ins\"\"|ins\"\"", "c=nope"};
        int[][] due = {{6, 10, 'a'}, {0, NONE, NONE}, {2, 2, NONE}, {4, 7, 0}, {2, 2, NONE}};
        for (int i = 0; i < told.length; i++) {
            Calls.define(x, told[i]);
            for (int round = 0; round < 2; round++) {
                for (int what = 0; what < 3; what++) {
                    Calls.due("5 '" + told[i] + "' " + what, x.fault(what), due[i][what]);
                }
                for (int what : new int[] {Integer.MIN_VALUE, -2, -1, 3, 4, Integer.MAX_VALUE}) {
                    Calls.due("5 no what", x.fault(what), NONE);
                }
                Calls.say(x, 0, "A");
                Calls.say(x, 0, "a");
                x.feed(0, 0, 0, 0, 0);
                x.get(0, 0, 1);
                x.get(7, 0, 1);
                x.open(0, 0);
                x.edit(5, 5, 5, 5);
            }
            x.end(0);
        }
    }
}

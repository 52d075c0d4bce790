import java.util.ArrayList;
import java.util.HashMap;
import java.util.List;
import java.util.Map;
import java.util.function.IntUnaryOperator;

/** Definitions whose sources and views are the same set, so that "then" can stand between any two of them. */
final class Towers implements Definitions {
    private static final int FAMILIES = 9;
    private static final int MOST_LINKS = 150;
    private static final String FLIP = "(del \"a\" \"a\" . ins \"b\" | del \"b\" \"b\" . ins \"a\")";
    private static final String FLOP = "(del \"1\" \"1\" . ins \"0\" | del \"0\" \"0\" . ins \"1\")";
    private static final String MORE = "(del \"1\" \"1\" . ins \"0\")* . (del \"0\" \"0\" . ins \"1\" . copy [0-1]* | copy \"\")";
    private static final String LESS = "(del \"0\" \"0\" . ins \"1\")* . (copy \"\" | del \"1\" \"1\" . ins \"0\" . copy [0-1]*)";

    /** As those of 0 and 1, but a text may become longer or shorter. */
    private static final String LONGER = MORE.replace("copy [0-1]*", "copy (\"0\"|\"22\")*").replace("1", "22");
    private static final String SHORTER = LESS.replace("copy [0-1]*", "copy (\"0\"|\"22\")*").replace("1", "22");

    private final IntUnaryOperator pick;
    private final int family;
    private final Map<String, Integer> links = new HashMap<>();
    private final List<String> small = new ArrayList<>();
    private final List<String> tall = new ArrayList<>();
    /** Lenses that can stand ahead of all others alone, behind all others alone. */
    private final List<String> firsts = new ArrayList<>();
    private final List<String> lasts = new ArrayList<>();
    private boolean isSmall;
    private boolean opens;
    private boolean closes;
    private int many;

    Towers(IntUnaryOperator pick) {
        this.pick = pick;
        family = pick.applyAsInt(FAMILIES);
    }

    private String one(String... of) {
        return of[pick.applyAsInt(of.length)];
    }

    @Override
    public String definition() {
        isSmall = family == 0 || (family == 7 && pick.applyAsInt(3) == 0);
        opens = family != 7 && pick.applyAsInt(6) == 0;
        closes = family != 7 && pick.applyAsInt(6) == 0;
        StringBuilder made = new StringBuilder();
        many = 0;
        if (opens) {
            link(made, firsts, opening());
        }
        for (int i = pick.applyAsInt(6); i >= 0; i--) {
            link(made, isSmall ? small : tall, isSmall ? row() : member());
        }
        if (closes) {
            link(made, lasts, closing());
        }
        return made.toString();
    }

    /** A name that is told, or else what is given; the slow model can't have too many links. */
    private void link(StringBuilder made, List<String> named, String other) {
        String next = named.isEmpty() || pick.applyAsInt(3) == 0 ? null : named.get(pick.applyAsInt(named.size()));
        int more = next == null ? 1 : links.get(next);
        if (many + more > MOST_LINKS) {
            next = null;
            more = 1;
        }
        many += more;
        made.append(made.length() == 0 ? "" : " then ").append(next != null ? next : other);
    }

    @Override
    public void told(String name) {
        links.put(name, many);
        if (opens && closes) {
            return;
        }
        (opens ? firsts : closes ? lasts : isSmall ? small : tall).add(name);
    }

    private String opening() {
        String first = "(copy \"a\" | del [b-c] \"c\" . ins \"b\")";
        String number = "(copy \"0\" | del [1-2] \"2\" . ins \"1\")";
        switch (family) {
            case 0:
                return one(first + " . " + letter() + " . " + letter(), "swap(" + first + ", copy [a-b]) . copy [a-b]");
            case 1:
                return repeated(letter() + " . " + number + " . copy \";\"");
            case 2:
                return number + "*";
            case 3:
                return "(copy \"a\" | del [b-d] \"d\" . ins \"bb\")*";
            case 4:
                return first + " . " + number + "*";
            case 5:
                return "(" + first + " . copy \"1\")*";
            case 8:
                return "(copy \"0\" | del [4-6] \"5\" . ins \"22\")*";
            default:
                return "(" + first + " . " + letter() + " . " + letter() + ")*";
        }
    }

    private String repeated(String part) {
        return one("(" + part + ")*", "dict (key \"\" . " + part + ")");
    }

    private String closing() {
        String first = one("(copy \"a\" | del \"b\" \"b\" . ins \"a\")", "del [a-b] \"b\" . ins \"c\"");
        String number = one("(copy \"0\" | del \"1\" \"1\" . ins \"0\")", "(key \"0\" | del \"1\" \"1\" . ins \"0\")");
        switch (family) {
            case 0:
                return one(first + " . " + letter() + " . " + letter(), "swap(" + first + ", copy [a-b]) . copy [a-b]");
            case 1:
                return repeated(letter() + " . " + number + " . copy \";\"");
            case 2:
                return number + "*";
            case 3:
                return one("(copy \"a\" | del \"bb\" \"bb\" . ins \"a\")*", "(del \"a\" \"a\" . ins \"c\" | copy \"bb\")*");
            case 4:
                return one("copy \"a\" . copy [0-1]* | del \"b\" \"b\" . ins \"a\" . " + FLOP + "*",
                    first + " . " + number + "*");
            case 5:
                return "(" + first + " . copy \"1\")*";
            case 8:
                return one("(copy \"0\" | del \"22\" \"22\" . ins \"0\")*", "(copy \"0\" | key \"2\" . del \"2\" \"2\")*");
            default:
                return "(" + first + " . " + letter() + " . " + letter() + ")*";
        }
    }

    private String letter() {
        return one("copy [a-b]", "key [a-b]", FLIP, "copy [a-b]");
    }

    /** All of three symbols, a or b. */
    private String row() {
        String a = letter();
        String b = letter();
        String c = letter();
        switch (pick.applyAsInt(6)) {
            case 0:
                return "swap(" + a + ", " + b + " . " + c + ")";
            case 1:
                return "swap(" + a + " . " + b + ", " + c + ")";
            case 2:
                return a + " . swap(" + b + ", " + c + ")";
            case 3:
                return "swap(swap(" + a + ", " + b + "), " + c + ")";
            case 4:
                return "copy ([a-b][a-b]) . " + c;
            default:
                return a + " . " + b + " . " + c;
        }
    }

    private String part() {
        String letters = one("key [a-b]", FLIP, "copy [a-b]", "swap(key [a-b], ins \"\")");
        return letters + " . " + one("key [0-1]", "copy [0-1]", FLOP) + " . copy \";\"";
    }

    private String member() {
        switch (family) {
            case 1:
                return repeated(part());
            case 2:
                return one(MORE, MORE, LESS, FLOP + "*", "copy [0-1]*", "(key [0-1])*");
            case 3:
                return one("(del \"a\" \"a\" . ins \"bb\" | del \"bb\" \"bb\" . ins \"a\")*", "copy (\"a\"|\"bb\")*",
                    "(copy \"a\" | copy \"b\" . copy \"b\")*", "dict (copy \"a\" | swap(key \"b\", copy \"b\"))",
                    "dict (del \"a\" \"a\" . ins \"bb\" | key \"\" . del \"bb\" \"bb\" . ins \"a\")");
            case 4:
                return one(FLIP + " . copy [0-1]*", "copy \"a\" . " + MORE + " | copy \"b\" . copy [0-1]*",
                    "del \"b\" \"b\" . ins \"a\" . copy [0-1]* | del \"a\" \"a\" . ins \"b\" . copy [0-1]*",
                    "del \"a\" \"a\" . ins \"b\" . " + FLOP + "* | del \"b\" \"b\" . ins \"a\" . " + LESS,
                    "copy [a-b] . " + MORE);
            case 5:
                return one("(copy [a-b] . del \"1\" \"1\" . ins \"1\")*", "(" + FLIP + " . copy \"1\")*",
                    "(key [a-b] . copy \"1\")*", "dict (key [a-b] . copy \"1\")", "dict (" + FLIP + " . key \"1\")",
                    "dict (swap(ins \"\", key [a-b]) . del \"1\" \"1\" . ins \"1\")");
            case 8:
                return one(LONGER, LONGER, SHORTER, "copy (\"0\"|\"22\")*", FLOP.replace("1", "22") + "*",
                    "dict (key \"\" . " + FLOP.replace("1", "22") + ")");
            case 6:
                return one("(" + row() + ")*", "dict (key \"\" . " + row() + ")", "dict (" + row() + ". key \"\")");
            default:
                String item = small.isEmpty() ? row() : small.get(pick.applyAsInt(small.size()));
                return one("(" + item + " . copy \",\")*", "dict (" + item + " . key \",\")");
        }
    }
}

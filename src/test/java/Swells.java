import java.util.ArrayList;
import java.util.List;
import java.util.function.IntUnaryOperator;

/** Definitions of lenses behind one another, between which texts become longer and shorter again. */
final class Swells implements Definitions {
    /** Letters and a comma, letters alone, letters with a comma and a long text: each lens goes from one to another. */
    private static final int PLAIN = 0;
    private static final int SHORT = 1;
    private static final int LONG = 2;
    private static final int MOST_LINKS = 60;
    private static final String FLIP = "(del \"a\" \"a\" . ins \"b\" | del \"b\" \"b\" . ins \"a\")";
    private static final String FLOP = "(del \"1\" \"1\" . ins \"0\" | del \"0\" \"0\" . ins \"1\")";
    private static final String[] REPEATED = {"(copy [8-9] . X)*", "dict (key [8-9] . X)", "(key [8-9] . X)*"};
    private static final String[] BRANCHED = {"X | copy [0-1]", "X | FLOP", "X | key [0-1]"};
    private static final String[] ROWED = {"X . copy \"/\" . copy [0-1]*", "X . key \"/\" . FLOP*",
        "X . del \"/\" \"/\" . ins \"/\" . copy [0-1]*", "X . copy \"/\" . swap(copy [0-1]*, ins \"\")"};
    private static final String[] TWICE = {"((X | copy [0-1]) . copy \"/\")*", "dict ((X | FLOP) . key \"/\")",
        "((X | key [0-1]) . copy \"/\")*"};

    private static final class Link {
        final String name;
        final boolean within;
        final int from;
        final int to;
        final int links;

        Link(String name, boolean within, int from, int to, int links) {
            this.name = name;
            this.within = within;
            this.from = from;
            this.to = to;
            this.links = links;
        }
    }

    private final IntUnaryOperator pick;
    private final List<Link> told = new ArrayList<>();
    private final String[] around;
    private final String more;
    /** The letters of a part: many, one of two, or one alone. */
    private final int letters;
    private Link latest;
    private int links;

    Swells(IntUnaryOperator pick) {
        this.pick = pick;
        around = new String[][] {REPEATED, REPEATED, BRANCHED, ROWED, TWICE}[pick.applyAsInt(5)];
        more = one("ccccc", "cccccccccccccccccccc", "cccccccccccccccccccc", "ccccccccccccc");
        letters = Math.max(0, pick.applyAsInt(8) - 5);
    }

    private String one(String... of) {
        return of[pick.applyAsInt(of.length)];
    }

    @Override
    public String definition() {
        boolean within = told.size() < 2 || pick.applyAsInt(8) == 0;
        int from = pick.applyAsInt(3) == 0 ? place() : PLAIN;
        StringBuilder made = new StringBuilder();
        int at = from;
        links = 0;
        for (int left = pick.applyAsInt(4); left >= 0; left--) {
            int to = left > 0 && (within || pick.applyAsInt(4) == 0) || pick.applyAsInt(8) == 0 ? place() : from;
            made.append(made.length() == 0 ? "" : " then ").append(link(within, at, to));
            at = to;
        }
        latest = new Link("", within, from, at, links);
        return made.toString();
    }

    private int place() {
        return new int[] {PLAIN, SHORT, LONG, LONG}[pick.applyAsInt(4)];
    }

    @Override
    public void told(String name) {
        told.add(new Link(name, latest.within, latest.from, latest.to, latest.links));
    }

    private String link(boolean within, int from, int to) {
        for (int i = 0; i < told.size(); i++) {
            Link each = told.get(pick.applyAsInt(told.size()));
            boolean fits = each.within == within && each.from == from && each.to == to;
            if (fits && links + each.links <= MOST_LINKS && pick.applyAsInt(4) > 0) {
                links += each.links;
                return each.name;
            }
        }
        if (within) {
            links++;
            return step(from, to);
        }
        return one(around).replace("X", "(" + link(true, from, to) + ")").replace("FLOP", FLOP);
    }

    private String step(int from, int to) {
        String head = letters == 2 ? one("copy \"a\"", "del \"a\" \"a\" . ins \"a\"", "key \"a\"")
            : letters == 1 ? one("copy [a-b]", "key [a-b]", FLIP)
            : one("copy [a-b]+", "key [a-b]+", FLIP + " . " + FLIP + "*", "copy [a-b] . copy [a-b]*");
        String sign = from == SHORT ? to == SHORT ? "" : " . ins \",\""
            : to == SHORT ? " . del \",\" \",\"" : one(" . copy \",\"", " . del \",\" \",\" . ins \",\"");
        String tail = from == LONG ? to == LONG ? " . copy \"T\"" : " . del \"T\" \"T\""
            : to == LONG ? " . ins \"T\" . ins \"T\"" : "";
        String twice = from == LONG ? tail + tail : tail;
        return head + sign + twice.replace("T", more);
    }
}

import java.util.ArrayList;
import java.util.List;
import java.util.function.IntUnaryOperator;

/** Definitions made along the shapes of sets, so that each lens of "then" takes just what the one ahead of it shows. */
final class Shapes implements Definitions {
    private static final int MOST_LINKS = 40;

    /** A quoted text or a range (without kids), a row, branches, or a repetition. */
    private static final class Shape {
        final char kind;
        final String unit;
        final List<Shape> kids = new ArrayList<>();

        Shape(char kind, String unit) {
            this.kind = kind;
            this.unit = unit;
        }

        Shape with(List<Shape> all) {
            kids.addAll(all);
            return this;
        }

        /** The set as a UNIT. */
        @Override
        public String toString() {
            if (kids.isEmpty()) {
                return kind == 'q' ? "\"" + unit + "\"" : kind == 's' ? unit : "\"\"";
            }
            StringBuilder made = new StringBuilder("(");
            for (int i = 0; i < kids.size(); i++) {
                made.append(i > 0 && kind == '|' ? "|" : "").append(kids.get(i));
            }
            return made.append(kind == '*' ? ")*" : ")").toString();
        }
    }

    private static final class Told {
        final String name;
        final Shape from;
        final Shape to;
        final int links;

        Told(String name, Shape from, Shape to, int links) {
            this.name = name;
            this.from = from;
            this.to = to;
            this.links = links;
        }
    }

    private final IntUnaryOperator pick;
    private final List<Told> told = new ArrayList<>();
    private final Shape whole;
    private Told latest;
    private int links;
    /** What the latest piece of a lens shows. */
    private Shape shown;

    Shapes(IntUnaryOperator pick) {
        this.pick = pick;
        whole = shape(3, "" + ",;:/".charAt(pick(4)));
    }

    private int pick(int n) {
        return pick.applyAsInt(n);
    }

    private String one(String... of) {
        return of[pick(of.length)];
    }

    private Shape text(String t) {
        return new Shape('q', t);
    }

    /** A shape that begins with a letter or a digit and ends with a sign. */
    private Shape shape(int depth, String end) {
        int kind = depth <= 0 ? 0 : pick(5);
        List<Shape> kids = new ArrayList<>();
        if (kind == 1) {
            String next = "" + ",;:/".charAt((",;:/".indexOf(end) + 1) % 4);
            kids.add(text(one("a", "x", "1")));
            kids.add(new Shape('*', "").with(List.of(shape(depth - 1, next))));
            kids.add(text(end));
            return new Shape('.', "").with(kids);
        }
        if (kind == 2) {
            for (int i = 0; i < 2 + pick(2); i++) {
                Shape head = text("012".substring(i, i + 1));
                kids.add(new Shape('.', "").with(List.of(head, shape(depth - 1, end))));
            }
            return new Shape('|', "").with(kids);
        }
        if (kind > 2) {
            kids.add(shape(depth - 1, end));
            kids.add(shape(depth - 1, end));
            return new Shape('.', "").with(kids);
        }
        kids.add(one("s", "q").equals("s") ? new Shape('s', one("[a-b]", "[a-b]+", "[x-z]*", "[a-b]+"))
            : text(one("a", "b", "ab", "xxxxx")));
        kids.add(text(end));
        return new Shape('.', "").with(kids);
    }

    @Override
    public String definition() {
        Shape from = whole;
        if (pick(3) == 0 && !told.isEmpty()) {
            Told some = told.get(pick(told.size()));
            from = pick(2) == 0 ? some.to : some.from;
        }
        for (int i = pick(4); i > 0 && !from.kids.isEmpty() && told.size() < 4; i--) {
            from = from.kids.get(pick(from.kids.size()));
        }
        StringBuilder made = new StringBuilder();
        Shape at = from;
        links = 0;
        for (int i = 1 + pick(4); i > 0; i--) {
            made.append(made.length() == 0 ? "" : " then ").append(lens(at));
            at = shown;
        }
        latest = new Told("", from, at, links);
        return made.toString();
    }

    @Override
    public void told(String name) {
        told.add(new Told(name, latest.from, latest.to, latest.links));
    }

    /** A lens whose sources are a shape; 'shown' is the shape of its views. */
    private String lens(Shape from) {
        for (Told each : told) {
            if (pick(3) > 0 && links + each.links <= MOST_LINKS && each.from.toString().equals(from.toString())) {
                links += each.links;
                shown = each.to;
                return each.name;
            }
        }
        links++;
        shown = from;
        if (pick(from.kids.isEmpty() ? 3 : 6) == 0) {
            return one("copy ", "key ") + from;
        }
        switch (from.kind) {
            case 'q':
                return ofText(from);
            case 's':
                return ofRange(from);
            case '*':
                return ofMany(from);
            case '|':
                return ofBranches(from);
            default:
                return ofRow(from);
        }
    }

    private String ofText(Shape from) {
        String own = from.unit;
        if (own.isEmpty() || pick(3) == 0) {
            return one("copy ", "key ") + from;
        }
        String next = ",;:/".contains(own) ? own : "012".contains(own) ? pick(3) > 0 ? own : "" + (char) ('0' + pick(3))
            : one(own, "a", "b", "ab", "bba", "xxxxxxxxxxxxxxxxx");
        shown = text(next);
        return "(del \"" + own + "\" \"" + own + "\" . ins \"" + next + "\")";
    }

    private String ofRange(Shape from) {
        String sign = from.unit.substring(5);
        if (from.unit.startsWith("[a-b]") && pick(2) == 0) {
            String flip = "(del \"a\" \"a\" . ins \"b\" | del \"b\" \"b\" . ins \"a\")";
            return sign.equals("+") ? "(" + flip + " . " + flip + "*)" : flip + sign;
        }
        if (pick(9) == 0) {
            shown = text("");
            return "del " + from.unit + " \"" + (from.unit.startsWith("[a") ? "b" : sign.isEmpty() ? "x" : "xxy") + "\"";
        }
        return one("copy ", "key ") + from;
    }

    private String ofMany(Shape from) {
        String part = lens(from.kids.get(0));
        shown = new Shape('*', "").with(List.of(shown));
        return one("(" + part + ")*", "(" + part + ")*", "dict (key \"\" . " + part + ")", "dict (" + part + ")");
    }

    private String ofBranches(Shape from) {
        StringBuilder made = new StringBuilder("(");
        List<Shape> views = new ArrayList<>();
        boolean same = true;
        for (Shape each : from.kids) {
            made.append(made.length() > 1 ? " | " : "").append(lens(each));
            views.add(shown);
            same &= shown.toString().equals(views.get(0).toString());
        }
        shown = same ? views.get(0) : new Shape('|', "").with(views);
        return made.append(")").toString();
    }

    private String ofRow(Shape from) {
        List<String> made = new ArrayList<>();
        List<Shape> views = new ArrayList<>();
        for (Shape each : from.kids) {
            made.add(lens(each));
            views.add(shown);
            if (pick(8) == 0) {
                String more = one("a", "zz", "yyyyyyyyyyyyyyyyyyyy", "");
                made.add("ins \"" + more + "\"");
                views.add(text(more));
            }
        }
        boolean swapped = made.size() > 1 && pick(4) == 0;
        for (int i = made.size() - 2; i >= 0 && swapped; i--) {
            if (pick(2) == 0) {
                made.set(i, "swap(" + made.get(i) + ", " + made.get(i + 1) + ")");
                Shape pair = new Shape('.', "").with(List.of(views.get(i + 1), views.get(i)));
                views.set(i, pair);
                made.remove(i + 1);
                views.remove(i + 1);
            }
        }
        shown = new Shape('.', "").with(views);
        return made.size() == 1 ? made.get(0) : "(" + String.join(" . ", made) + ")";
    }
}

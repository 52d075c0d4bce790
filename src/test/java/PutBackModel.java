import java.math.BigInteger;
import java.util.ArrayDeque;
import java.util.ArrayList;
import java.util.BitSet;
import java.util.HashMap;
import java.util.HashSet;
import java.util.LinkedHashMap;
import java.util.List;
import java.util.Map;
import java.util.Set;
import java.util.TreeSet;

/**
 * The document once more, written a second time in another way: lenses as trees of two, parts told apart by trying
 * every way, sets by sets of positions. It is slow, and only there to be compared with the class.
 */
final class PutBackModel {
    static final int NONE = -1;
    static final String SYMBOLS = " ,-/0123456789:;abcdefghijklmnopqrstuvwxyz";

    /** What the tape is refused with. */
    static final class Fault extends RuntimeException {
        private static final long serialVersionUID = 1L;
        final int number;
        final int place;
        final int shown;

        Fault(int number, int place, int shown) {
            super(null, null, false, false);
            this.number = number;
            this.place = place;
            this.shown = shown;
        }
    }

    /** There is no outcome. */
    static final class Nothing extends RuntimeException {
        private static final long serialVersionUID = 1L;

        Nothing() {
            super(null, null, false, false);
        }
    }

    static final class Language {
        final List<BitSet> signs = new ArrayList<>();
        final List<Set<Integer>> behind = new ArrayList<>();
        final Set<Integer> first = new TreeSet<>();
        final Set<Integer> last = new TreeSet<>();
        boolean empty;

        int add(BitSet allowed) {
            signs.add(allowed);
            behind.add(new TreeSet<>());
            return signs.size() - 1;
        }

        static Language quoted(String text) {
            Language made = new Language();
            made.empty = text.isEmpty();
            for (int i = 0; i < text.length(); i++) {
                BitSet one = new BitSet();
                one.set(text.charAt(i));
                int p = made.add(one);
                if (p == 0) {
                    made.first.add(p);
                } else {
                    made.behind.get(p - 1).add(p);
                }
                if (i == text.length() - 1) {
                    made.last.add(p);
                }
            }
            return made;
        }

        static Language range(BitSet allowed) {
            Language made = new Language();
            made.add(allowed);
            made.first.add(0);
            made.last.add(0);
            return made;
        }

        private static Language both(Language a, Language b) {
            Language made = new Language();
            for (Language each : List.of(a, b)) {
                int offset = made.signs.size();
                for (int p = 0; p < each.signs.size(); p++) {
                    made.add(each.signs.get(p));
                }
                for (int p = 0; p < each.signs.size(); p++) {
                    for (int q : each.behind.get(p)) {
                        made.behind.get(p + offset).add(q + offset);
                    }
                }
            }
            return made;
        }

        private static Set<Integer> shifted(Set<Integer> old, int by) {
            Set<Integer> made = new TreeSet<>();
            for (int p : old) {
                made.add(p + by);
            }
            return made;
        }

        static Language chain(Language a, Language b) {
            Language made = both(a, b);
            Set<Integer> firstOfB = shifted(b.first, a.signs.size());
            made.first.addAll(a.first);
            if (a.empty) {
                made.first.addAll(firstOfB);
            }
            made.last.addAll(shifted(b.last, a.signs.size()));
            if (b.empty) {
                made.last.addAll(a.last);
            }
            for (int p : a.last) {
                made.behind.get(p).addAll(firstOfB);
            }
            made.empty = a.empty && b.empty;
            return made;
        }

        static Language either(Language a, Language b) {
            Language made = both(a, b);
            made.first.addAll(a.first);
            made.first.addAll(shifted(b.first, a.signs.size()));
            made.last.addAll(a.last);
            made.last.addAll(shifted(b.last, a.signs.size()));
            made.empty = a.empty || b.empty;
            return made;
        }

        static Language signed(Language a, char sign) {
            Language made = both(a, new Language());
            made.first.addAll(a.first);
            made.last.addAll(a.last);
            made.empty = a.empty || sign != '+';
            if (sign != '?') {
                for (int p : a.last) {
                    made.behind.get(p).addAll(a.first);
                }
            }
            return made;
        }

        /** The least common symbol of FIRST positions, 0 if only the empty text is of both, NONE if they don't meet. */
        static int meet(Language a, Language b) {
            int least = leastCommon(a, a.first, b);
            return least != NONE ? least : a.empty && b.empty ? 0 : NONE;
        }

        static int leastCommon(Language a, Set<Integer> ofA, Language b) {
            int least = NONE;
            for (int p : ofA) {
                for (int q : b.first) {
                    BitSet common = (BitSet) a.signs.get(p).clone();
                    common.and(b.signs.get(q));
                    int c = common.nextSetBit(0);
                    least = c < 0 ? least : least == NONE ? c : Math.min(least, c);
                }
            }
            return least;
        }

        static int runsInto(Language a, Language b) {
            Set<Integer> further = new TreeSet<>();
            for (int p : a.last) {
                further.addAll(a.behind.get(p));
            }
            if (a.empty) {
                further.addAll(a.first);
            }
            return leastCommon(a, further, b);
        }

        /** All positions that may stand behind a state; the state ahead of all is null. */
        Set<Integer> open(Set<Integer> state) {
            if (state == null) {
                return first;
            }
            Set<Integer> made = new TreeSet<>();
            for (int p : state) {
                made.addAll(behind.get(p));
            }
            return made;
        }

        Set<Integer> step(Set<Integer> state, char c) {
            Set<Integer> made = new TreeSet<>();
            for (int p : open(state)) {
                if (signs.get(p).get(c)) {
                    made.add(p);
                }
            }
            return made;
        }

        boolean ends(Set<Integer> state) {
            if (state == null) {
                return empty;
            }
            for (int p : state) {
                if (last.contains(p)) {
                    return true;
                }
            }
            return false;
        }

        Set<Integer> stateBehind(String text) {
            Set<Integer> state = null;
            for (char c : text.toCharArray()) {
                state = step(state, c);
                if (state.isEmpty()) {
                    return state;
                }
            }
            return state;
        }

        boolean has(String text) {
            return ends(stateBehind(text));
        }

        BigInteger count(Set<Integer> state, int n, Map<String, BigInteger> known) {
            if (n == 0) {
                return ends(state) ? BigInteger.ONE : BigInteger.ZERO;
            }
            String name = state + " " + n;
            BigInteger sum = known.get(name);
            if (sum == null) {
                sum = BigInteger.ZERO;
                for (char c : SYMBOLS.toCharArray()) {
                    Set<Integer> next = step(state, c);
                    if (!next.isEmpty()) {
                        sum = sum.add(count(next, n - 1, known));
                    }
                }
                known.put(name, sum);
            }
            return sum;
        }

        String nth(int i) {
            Map<String, BigInteger> known = new HashMap<>();
            BigInteger left = BigInteger.valueOf(i);
            for (int n = 0; n <= 20; n++) {
                BigInteger here = count(null, n, known);
                if (left.compareTo(here) < 0) {
                    return spell(n, left, known);
                }
                left = left.subtract(here);
            }
            return null;
        }

        private String spell(int n, BigInteger number, Map<String, BigInteger> known) {
            StringBuilder made = new StringBuilder();
            Set<Integer> state = null;
            BigInteger left = number;
            while (made.length() < n) {
                for (char c : SYMBOLS.toCharArray()) {
                    Set<Integer> next = step(state, c);
                    BigInteger here = next.isEmpty() ? BigInteger.ZERO : count(next, n - 1 - made.length(), known);
                    if (left.compareTo(here) < 0) {
                        made.append(c);
                        state = next;
                        break;
                    }
                    left = left.subtract(here);
                }
            }
            return made.toString();
        }

        /** Whether each text of a is one of b. */
        static boolean within(Language a, Language b) {
            Set<String> seen = new HashSet<>();
            ArrayDeque<List<Set<Integer>>> waiting = new ArrayDeque<>();
            List<Set<Integer>> start = new ArrayList<>();
            start.add(null);
            start.add(null);
            waiting.add(start);
            while (!waiting.isEmpty()) {
                List<Set<Integer>> pair = waiting.poll();
                if (!seen.add(pair.toString())) {
                    continue;
                }
                if (a.ends(pair.get(0)) && !b.ends(pair.get(1))) {
                    return false;
                }
                for (char c : SYMBOLS.toCharArray()) {
                    Set<Integer> next = a.step(pair.get(0), c);
                    if (!next.isEmpty()) {
                        waiting.add(List.of(next, b.step(pair.get(1), c)));
                    }
                }
            }
            return true;
        }

        static int compare(Language a, Language b) {
            boolean ab = within(a, b);
            boolean ba = within(b, a);
            return ab ? ba ? 0 : 1 : ba ? 2 : 3;
        }
    }

    enum Kind { COPY, KEY, DEL, INS, ROW, SWAP, OR, STAR, DICT, THEN }

    static final class Node {
        Kind kind;
        Language s;
        Language v;
        Node a;
        Node b;
        String t = "";
        boolean same;

        boolean hasKey() {
            switch (kind) {
                case KEY:
                    return true;
                case ROW:
                case SWAP:
                    return a.hasKey() || b.hasKey();
                case OR:
                    return a.hasKey() || !same && b.hasKey();
                case STAR:
                    return a.hasKey();
                case THEN:
                    return b.hasKey();
                default:
                    return false;
            }
        }

        /** Where a text is told apart into one of x and one of y: in one way alone. */
        private static int split(Language x, Language y, String text) {
            int found = NONE;
            for (int i = 0; i <= text.length(); i++) {
                if (x.has(text.substring(0, i)) && y.has(text.substring(i))) {
                    if (found != NONE) {
                        throw new IllegalStateException("two ways to tell '" + text + "' apart");
                    }
                    found = i;
                }
            }
            if (found == NONE) {
                throw new IllegalStateException("no way to tell '" + text + "' apart");
            }
            return found;
        }

        static List<String> parts(Language x, String text) {
            Language more = Language.signed(x, '*');
            List<String> made = new ArrayList<>();
            String rest = text;
            while (!rest.isEmpty()) {
                int i = split(x, more, rest);
                made.add(rest.substring(0, i));
                rest = rest.substring(i);
            }
            return made;
        }

        String get(String c) {
            switch (kind) {
                case COPY:
                case KEY:
                    return c;
                case DEL:
                    return "";
                case INS:
                    return t;
                case ROW:
                case SWAP: {
                    int i = split(a.s, b.s, c);
                    String left = a.get(c.substring(0, i));
                    String right = b.get(c.substring(i));
                    return kind == Kind.ROW ? left + right : right + left;
                }
                case OR:
                    return a.s.has(c) ? a.get(c) : b.get(c);
                case THEN:
                    return b.get(limited(a.get(c)));
                default: {
                    StringBuilder made = new StringBuilder();
                    for (String each : parts(a.s, c)) {
                        made.append(a.get(each));
                    }
                    return made.toString();
                }
            }
        }

        /** A source of null: made anew. */
        String put(String v, String c) {
            switch (kind) {
                case COPY:
                case KEY:
                    return v;
                case DEL:
                    return c == null ? t : c;
                case INS:
                    return "";
                case ROW:
                    return putBoth(split(a.v, b.v, v), v, c, false);
                case SWAP:
                    return putBoth(split(b.v, a.v, v), v, c, true);
                case OR:
                    return putOr(v, c);
                case THEN:
                    if (c == null) {
                        return a.put(limited(b.put(v, null)), null);
                    }
                    return a.put(limited(b.put(v, limited(a.get(c)))), c);
                default: {
                    List<String> mine = parts(a.v, v);
                    List<String> old = c == null ? List.of() : parts(a.s, c);
                    int[] into = align(mine, c == null ? List.of() : old);
                    StringBuilder made = new StringBuilder();
                    for (int i = 0; i < mine.size(); i++) {
                        made.append(a.put(mine.get(i), into[i] < 0 ? null : old.get(into[i])));
                    }
                    return made.toString();
                }
            }
        }

        private String putBoth(int i, String v, String c, boolean swapped) {
            String left = swapped ? v.substring(i) : v.substring(0, i);
            String right = swapped ? v.substring(0, i) : v.substring(i);
            int k = c == null ? 0 : split(a.s, b.s, c);
            return a.put(left, c == null ? null : c.substring(0, k)) + b.put(right, c == null ? null : c.substring(k));
        }

        private String putOr(String v, String c) {
            if (same) {
                return c == null || a.s.has(c) ? a.put(v, c) : b.put(v, c);
            }
            Node chosen = a.v.has(v) ? a : b;
            return chosen.put(v, c != null && chosen.s.has(c) ? c : null);
        }

        int[] align(List<String> mine, List<String> old) {
            int[] into = new int[mine.size()];
            List<String> keys = new ArrayList<>();
            if (kind == Kind.DICT) {
                for (String each : old) {
                    keys.add(a.key(limited(a.get(each))));
                }
            }
            Set<Integer> taken = new HashSet<>();
            for (int i = 0; i < into.length; i++) {
                into[i] = kind == Kind.STAR && i < old.size() ? i : -2;
                for (int k = 0; kind == Kind.DICT && k < old.size() && into[i] == -2; k++) {
                    if (keys.get(k).equals(a.key(mine.get(i))) && taken.add(k)) {
                        into[i] = k;
                    }
                }
            }
            return into;
        }

        String key(String v) {
            switch (kind) {
                case KEY:
                    return v;
                case ROW: {
                    int i = split(a.v, b.v, v);
                    return a.key(v.substring(0, i)) + b.key(v.substring(i));
                }
                case SWAP: {
                    int i = split(b.v, a.v, v);
                    return b.key(v.substring(0, i)) + a.key(v.substring(i));
                }
                case OR:
                    return same || a.v.has(v) ? a.key(v) : b.key(v);
                case STAR: {
                    StringBuilder made = new StringBuilder();
                    for (String each : parts(a.v, v)) {
                        made.append(a.key(each));
                    }
                    return made.toString();
                }
                case THEN:
                    return b.key(v);
                default:
                    return "";
            }
        }
    }

    static String limited(String text) {
        if (text.length() > 60) {
            throw new Nothing();
        }
        return text;
    }

    /** Reads a definition; throws what it is refused with. */
    static final class Parser {
        private final String tape;
        private final Map<String, Node> known;
        private int at;
        private int opened;

        Parser(String tape, Map<String, Node> known) {
            this.tape = tape;
            this.known = known;
        }

        private static Fault cant(int place) {
            return new Fault(1, place, NONE);
        }

        private char sign() {
            while (at < tape.length() && (tape.charAt(at) == ' ' || tape.charAt(at) == '\n')) {
                at++;
            }
            return at < tape.length() ? tape.charAt(at) : 0xffff;
        }

        private void expect(char c) {
            if (sign() != c) {
                throw cant(at);
            }
            at++;
        }

        private String word() {
            sign();
            int end = at;
            while (end < tape.length() && tape.charAt(end) >= 'a' && tape.charAt(end) <= 'z') {
                end++;
            }
            return tape.substring(at, end);
        }

        private String name() {
            String word = word();
            if (word.isEmpty() || word.length() > 8
                || Set.of("then", "copy", "key", "del", "ins", "swap", "dict").contains(word)) {
                throw cant(at);
            }
            return word;
        }

        Node definition(StringBuilder itsName) {
            String name = name();
            if (known.containsKey(name)) {
                throw new Fault(2, at, NONE);
            }
            if (known.size() >= 8) {
                throw new Fault(3, at, NONE);
            }
            at += name.length();
            expect('=');
            Node made = lens();
            while (word().equals("then")) {
                int place = at;
                at += 4;
                Node right = lens();
                if (Language.compare(made.v, right.s) != 0) {
                    throw new Fault(12, place, NONE);
                }
                made = node(Kind.THEN, made.s, right.v, made, right);
            }
            if (sign() != 0xffff) {
                throw cant(at);
            }
            itsName.append(name);
            return made;
        }

        private static Node node(Kind kind, Language s, Language v, Node a, Node b) {
            Node made = new Node();
            made.kind = kind;
            made.s = s;
            made.v = v;
            made.a = a;
            made.b = b;
            return made;
        }

        private static void atMost(Language a, Language b, int place) {
            if (a.signs.size() + b.signs.size() > 60) {
                throw new Fault(3, place, NONE);
            }
        }

        private static void refuseIf(int shown, int number, int place) {
            if (shown != NONE) {
                throw new Fault(number, place, shown);
            }
        }

        private Node lens() {
            Node left = row();
            while (sign() == '|') {
                int place = at++;
                Node right = row();
                boolean same = Language.compare(left.v, right.v) == 0;
                atMost(left.s, right.s, place);
                if (!same) {
                    atMost(left.v, right.v, place);
                }
                refuseIf(Language.meet(left.s, right.s), 4, place);
                if (!same) {
                    refuseIf(Language.meet(left.v, right.v), 5, place);
                }
                Language v = same ? left.v : Language.either(left.v, right.v);
                left = node(Kind.OR, Language.either(left.s, right.s), v, left, right);
                left.same = same;
            }
            return left;
        }

        private Node row() {
            Node left = part();
            while (sign() == '.') {
                int place = at++;
                left = joined(left, part(), place, Kind.ROW);
            }
            return left;
        }

        private Node joined(Node left, Node right, int place, Kind kind) {
            Language v = kind == Kind.ROW ? left.v : right.v;
            Language w = kind == Kind.ROW ? right.v : left.v;
            atMost(left.s, right.s, place);
            atMost(v, w, place);
            refuseIf(Language.runsInto(left.s, right.s), 6, place);
            refuseIf(Language.runsInto(v, w), 7, place);
            return node(kind, Language.chain(left.s, right.s), Language.chain(v, w), left, right);
        }

        private Node part() {
            Node body = basic();
            if (sign() == '*') {
                int place = at++;
                return repeated(body, place, Kind.STAR);
            }
            return body;
        }

        private Node repeated(Node body, int place, Kind kind) {
            int s = Language.runsInto(body.s, body.s);
            refuseIf(s == NONE && body.s.empty ? 0 : s, 8, place);
            int v = Language.runsInto(body.v, body.v);
            refuseIf(v == NONE && body.v.empty ? 0 : v, 9, place);
            if (kind == Kind.DICT && !body.hasKey()) {
                throw new Fault(11, place, NONE);
            }
            return node(kind, Language.signed(body.s, '*'), Language.signed(body.v, '*'), body, null);
        }

        private void openOne() {
            if (sign() == '(' && opened == 12) {
                throw new Fault(3, at, NONE);
            }
            expect('(');
            opened++;
        }

        private void closeOne() {
            expect(')');
            opened--;
        }

        private Node basic() {
            if (sign() == '(') {
                openOne();
                Node within = lens();
                closeOne();
                return within;
            }
            String word = word();
            int place = at;
            switch (word) {
                case "copy":
                case "key": {
                    at += word.length();
                    Language u = unit();
                    return node(word.equals("key") ? Kind.KEY : Kind.COPY, u, u, null, null);
                }
                case "del": {
                    at += 3;
                    Language u = unit();
                    sign();
                    int quotedAt = at;
                    String t = quoted();
                    if (!u.has(t)) {
                        throw new Fault(10, quotedAt, NONE);
                    }
                    Node made = node(Kind.DEL, u, Language.quoted(""), null, null);
                    made.t = t;
                    return made;
                }
                case "ins": {
                    at += 3;
                    String t = quoted();
                    Node made = node(Kind.INS, Language.quoted(""), Language.quoted(t), null, null);
                    made.t = t;
                    return made;
                }
                case "swap": {
                    at += 4;
                    openOne();
                    Node left = lens();
                    expect(',');
                    Node right = lens();
                    closeOne();
                    return joined(left, right, place, Kind.SWAP);
                }
                case "dict":
                    at += 4;
                    return repeated(basic(), place, Kind.DICT);
                default: {
                    String name = name();
                    if (!known.containsKey(name)) {
                        throw new Fault(2, at, NONE);
                    }
                    at += name.length();
                    return known.get(name);
                }
            }
        }

        private String quoted() {
            expect('"');
            StringBuilder made = new StringBuilder();
            while (at < tape.length() && tape.charAt(at) != '"') {
                if (SYMBOLS.indexOf(tape.charAt(at)) < 0 || made.length() == 20) {
                    throw cant(at);
                }
                made.append(tape.charAt(at++));
            }
            if (at == tape.length()) {
                throw cant(at);
            }
            at++;
            return made.toString();
        }

        private Language unit() {
            Language atom = atom();
            char sign = sign();
            if (sign != '*' && sign != '+' && sign != '?') {
                return atom;
            }
            if (sign != '?') {
                refuseIf(Language.runsInto(atom, atom), 13, at);
            }
            at++;
            return Language.signed(atom, sign);
        }

        private Language atom() {
            switch (sign()) {
                case '"':
                    return Language.quoted(quoted());
                case '[':
                    return range();
                case '(': {
                    openOne();
                    Language made = chain();
                    while (sign() == '|') {
                        int place = at++;
                        Language right = chain();
                        atMost(made, right, place);
                        refuseIf(Language.meet(made, right), 13, place);
                        made = Language.either(made, right);
                    }
                    closeOne();
                    return made;
                }
                default:
                    throw cant(at);
            }
        }

        private Language chain() {
            Language made = unit();
            while ("\"[(".indexOf(sign()) >= 0) {
                int place = at;
                Language right = unit();
                atMost(made, right, place);
                refuseIf(Language.runsInto(made, right), 13, place);
                made = Language.chain(made, right);
            }
            return made;
        }

        private char bound() {
            if (at >= tape.length() || tape.charAt(at) == '-' || SYMBOLS.indexOf(tape.charAt(at)) < 0) {
                throw cant(at);
            }
            return tape.charAt(at++);
        }

        private Language range() {
            BitSet allowed = new BitSet();
            at++;
            do {
                char low = bound();
                char high = low;
                if (at < tape.length() && tape.charAt(at) == '-') {
                    at++;
                    high = bound();
                    if (high < low) {
                        throw cant(at - 1);
                    }
                }
                for (char c = low; c <= high; c++) {
                    if (SYMBOLS.indexOf(c) >= 0) {
                        allowed.set(c);
                    }
                }
            } while (at >= tape.length() || tape.charAt(at) != ']');
            at++;
            return Language.range(allowed);
        }
    }

    private final Map<String, Node> known = new LinkedHashMap<>();
    private final List<Node> lenses = new ArrayList<>();
    private final String[] slots = {"", "", "", "", "", "", "", ""};
    private String tape = "";
    private int[] latest = {0, NONE, NONE};
    private int opened = NONE;
    private String source = "";
    private String view = "";
    private final List<String[]> edits = new ArrayList<>();
    private int refused;
    private int[] moves;

    int feed(int... numbers) {
        if (tape.length() + 20 > 600) {
            return NONE;
        }
        StringBuilder more = new StringBuilder(tape);
        for (int n : numbers) {
            for (int k = 3; k >= 0; k--) {
                more.append((char) ((n >> (8 * k)) & 255));
            }
        }
        tape = more.toString();
        return tape.length();
    }

    boolean end(int n) {
        if (n < 0 || n > tape.length()) {
            return false;
        }
        tape = tape.substring(0, n);
        return true;
    }

    int lens() {
        String told = tape;
        tape = "";
        StringBuilder name = new StringBuilder();
        try {
            Node made = new Parser(told, known).definition(name);
            known.put(name.toString(), made);
            lenses.add(made);
            latest = new int[] {0, NONE, NONE};
            return lenses.size() - 1;
        } catch (Fault f) {
            latest = new int[] {f.number, f.place, f.shown};
            return NONE;
        }
    }

    int fault(int what) {
        return what >= 0 && what <= 2 ? latest[what] : NONE;
    }

    private boolean noSlot(int... asked) {
        for (int slot : asked) {
            if (slot < 0 || slot > 7) {
                return true;
            }
        }
        return false;
    }

    private boolean noLens(int lens) {
        return lens < 0 || lens >= lenses.size();
    }

    private Language language(int lens, int side) {
        return noLens(lens) || side < 0 || side > 1 ? null : side == 0 ? lenses.get(lens).s : lenses.get(lens).v;
    }

    int text(int slot) {
        String told = tape;
        tape = "";
        if (noSlot(slot) || told.length() > 60) {
            return NONE;
        }
        for (char c : told.toCharArray()) {
            if (SYMBOLS.indexOf(c) < 0) {
                return NONE;
            }
        }
        slots[slot] = told;
        return told.length();
    }

    int symbol(int slot, int i) {
        if (noSlot(slot) || i < NONE || i >= slots[slot].length()) {
            return NONE;
        }
        return i == NONE ? slots[slot].length() : slots[slot].charAt(i);
    }

    int fits(int lens, int side, int slot) {
        Language asked = language(lens, side);
        return asked == null || noSlot(slot) ? NONE : asked.has(slots[slot]) ? 1 : 0;
    }

    private String shown(Node lens, String c) {
        if (!lens.s.has(c)) {
            return null;
        }
        try {
            return limited(lens.get(c));
        } catch (Nothing none) {
            return null;
        }
    }

    private String putBack(Node lens, String v, String c) {
        if (v == null || !lens.v.has(v) || c != null && !lens.s.has(c)) {
            return null;
        }
        try {
            return limited(lens.put(v, c));
        } catch (Nothing none) {
            return null;
        }
    }

    private int into(int slot, String made) {
        if (made == null) {
            return NONE;
        }
        slots[slot] = made;
        return made.length();
    }

    int get(int lens, int slot, int into) {
        return noLens(lens) || noSlot(slot, into) ? NONE : into(into, shown(lenses.get(lens), slots[slot]));
    }

    int put(int lens, int v, int c, int into) {
        return noLens(lens) || noSlot(v, c, into) ? NONE : into(into, putBack(lenses.get(lens), slots[v], slots[c]));
    }

    int create(int lens, int v, int into) {
        return noLens(lens) || noSlot(v, into) ? NONE : into(into, putBack(lenses.get(lens), slots[v], null));
    }

    long many(int lens, int side, int n) {
        Language asked = language(lens, side);
        if (asked == null || n < 0 || n > 20) {
            return NONE;
        }
        return asked.count(null, n, new HashMap<>()).min(BigInteger.TEN.pow(18)).longValue();
    }

    int nth(int lens, int side, int i, int into) {
        Language asked = language(lens, side);
        return asked == null || noSlot(into) || i < 0 || i > 999 ? NONE : into(into, asked.nth(i));
    }

    int compare(int lens, int side, int other, int otherSide) {
        Language a = language(lens, side);
        Language b = language(other, otherSide);
        return a == null || b == null ? NONE : Language.compare(a, b);
    }

    int set(int lens, int side, int what) {
        Language asked = language(lens, side);
        if (asked == null || what < 0 || what > 3) {
            return NONE;
        }
        int[] told = {asked.signs.size(), asked.first.size(), asked.last.size(), asked.empty ? 1 : 0};
        return told[what];
    }

    int goesOn(int lens, int side, int slot, int i) {
        Language asked = language(lens, side);
        if (asked == null || noSlot(slot)) {
            return NONE;
        }
        Set<Integer> state = asked.stateBehind(slots[slot]);
        if (state != null && state.isEmpty()) {
            return NONE;
        }
        List<Character> found = new ArrayList<>();
        for (char c : SYMBOLS.toCharArray()) {
            if (!asked.step(state, c).isEmpty()) {
                found.add(c);
            }
        }
        return i == NONE ? found.size() : i >= 0 && i < found.size() ? found.get(i) : NONE;
    }

    private Node repeated(int lens) {
        if (noLens(lens)) {
            return null;
        }
        Node found = lenses.get(lens);
        while (found.kind == Kind.THEN) {
            found = found.b;
        }
        return found.kind == Kind.STAR || found.kind == Kind.DICT ? found : null;
    }

    int parts(int lens, int slot) {
        Node asked = repeated(lens);
        return asked == null || noSlot(slot) || !asked.v.has(slots[slot]) ? NONE
            : Node.parts(asked.a.v, slots[slot]).size();
    }

    int aligned(int lens, int v, int c, int i) {
        Node asked = repeated(lens);
        if (asked == null || asked != lenses.get(lens) || noSlot(v, c) || !asked.v.has(slots[v])
            || !asked.s.has(slots[c])) {
            return NONE;
        }
        List<String> mine = Node.parts(asked.a.v, slots[v]);
        try {
            int[] into = asked.align(mine, Node.parts(asked.a.s, slots[c]));
            return i < 0 || i >= mine.size() ? NONE : into[i];
        } catch (Nothing none) {
            return NONE;
        }
    }

    int key(int lens, int slot, int i, int into) {
        int many = parts(lens, slot);
        if (many == NONE || noSlot(into) || i < 0 || i >= many) {
            return NONE;
        }
        Node asked = repeated(lens);
        return into(into, asked.a.key(Node.parts(asked.a.v, slots[slot]).get(i)));
    }

    private static List<String> least(Language asked, int n) {
        List<String> made = new ArrayList<>();
        for (int i = 0; i < n && asked.nth(i) != null; i++) {
            made.add(asked.nth(i));
        }
        return made;
    }

    int laws(int lens, int kind, int n) {
        if (noLens(lens) || kind < 0 || kind > 3 || n < 1 || n > 5) {
            return NONE;
        }
        Node asked = lenses.get(lens);
        List<String> sources = least(asked.s, n);
        List<String> views = least(asked.v, n);
        int broken = 0;
        if (kind == 3) {
            for (String v : views) {
                String made = putBack(asked, v, null);
                broken += made != null && v.equals(shown(asked, made)) ? 0 : 1;
            }
            return broken;
        }
        for (String c : sources) {
            if (kind == 0) {
                broken += c.equals(putBack(asked, shown(asked, c), c)) ? 0 : 1;
                continue;
            }
            for (String v : views) {
                String made = putBack(asked, v, c);
                if (kind == 1) {
                    broken += made != null && v.equals(shown(asked, made)) ? 0 : 1;
                    continue;
                }
                for (String w : views) {
                    String once = putBack(asked, w, c);
                    broken += made != null && once != null && once.equals(putBack(asked, w, made)) ? 0 : 1;
                }
            }
        }
        return broken;
    }

    int open(int lens, int slot) {
        if (noLens(lens) || noSlot(slot)) {
            return NONE;
        }
        String made = shown(lenses.get(lens), slots[slot]);
        if (made == null) {
            return NONE;
        }
        opened = lens;
        source = slots[slot];
        view = made;
        edits.clear();
        refused = 0;
        moves = null;
        return view.length();
    }

    int edit(int side, int at, int gone, int slot) {
        if (opened == NONE) {
            return NONE;
        }
        refused++;
        String mine = side == 0 ? source : view;
        if (side < 0 || side > 1 || noSlot(slot) || at < 0 || gone < 0 || (long) at + gone > mine.length()) {
            return NONE;
        }
        String now = mine.substring(0, at) + slots[slot] + mine.substring(at + gone);
        if (now.length() > 60) {
            return NONE;
        }
        Node lens = lenses.get(opened);
        String made = side == 0 ? shown(lens, now) : putBack(lens, now, source);
        if (made == null) {
            return NONE;
        }
        refused--;
        edits.add(new String[] {source, view});
        if (edits.size() > 8) {
            edits.remove(0);
        }
        moves = moves(side == 0 ? view : source, made);
        source = side == 0 ? now : made;
        view = side == 0 ? made : now;
        return made.length();
    }

    private static int[] moves(String old, String now) {
        int begin = 0;
        while (begin < old.length() && begin < now.length() && old.charAt(begin) == now.charAt(begin)) {
            begin++;
        }
        String a = old.substring(begin);
        String b = now.substring(begin);
        while (!a.isEmpty() && !b.isEmpty() && a.charAt(a.length() - 1) == b.charAt(b.length() - 1)) {
            a = a.substring(0, a.length() - 1);
            b = b.substring(0, b.length() - 1);
        }
        return new int[] {begin, a.length(), b.length()};
    }

    boolean undo() {
        if (edits.isEmpty()) {
            return false;
        }
        String[] ahead = edits.remove(edits.size() - 1);
        source = ahead[0];
        view = ahead[1];
        moves = null;
        return true;
    }

    int copy(int side, int into) {
        return opened == NONE || side < 0 || side > 1 || noSlot(into) ? NONE : into(into, side == 0 ? source : view);
    }

    int moved(int what) {
        return moves == null || what < 0 || what > 2 ? NONE : moves[what];
    }

    int join(int slot, int other, int into) {
        if (noSlot(slot, other, into) || slots[slot].length() + slots[other].length() > 60) {
            return NONE;
        }
        return into(into, slots[slot] + slots[other]);
    }

    int cut(int slot, int from, int many, int into) {
        if (noSlot(slot, into) || from < 0 || many < 0 || (long) from + many > slots[slot].length()) {
            return NONE;
        }
        return into(into, slots[slot].substring(from, from + many));
    }

    int look(int what) {
        int[] told = {lenses.size(), tape.length(), opened, edits.size(), opened == NONE ? 0 : refused};
        return what < 0 || what >= told.length ? NONE : told[what];
    }
}

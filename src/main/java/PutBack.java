import java.util.Arrays;

/** Lenses told as texts: what they show of a source, and how a changed view is put back. */
public final class PutBack {
    public static final int NONE = -1;

    private static final int TAPE_BYTES = 600;
    private static final int FED_BYTES = 20;
    private static final int LONGEST = 60;
    private static final int MOST_POSITIONS = 60;
    private static final int MOST_QUOTED = 20;
    private static final int MOST_LETTERS = 8;
    private static final int MOST_OPENED = 12;
    private static final int MOST_LENSES = 8;
    private static final int MOST_SLOTS = 8;
    private static final int MOST_KEPT = 8;
    private static final int MOST_COUNTED = 20;
    private static final int LAST_TOLD = 999;
    private static final int MOST_TRIED = 5;
    private static final long MOST_MANY = 1000000000000000000L;

    /** Answer of aligned() for a part that is made anew. */
    private static final int ANEW = -2;

    /** Far above what eight tapes can tell: some 86 lenses behind one another, named 86 times each, and so on. */
    private static final long MOST_STEPS = 1L << 62;

    /** A "then" of at least so many parts recalls what it answered. */
    private static final int HEAVY = 200;
    private static final int MOST_WEIGHT = 1000000;

    /** Each "then" takes four bytes of the tape. */
    private static final int MOST_LINKS = TAPE_BYTES / 4;

    /** Where a length isn't always the same. */
    private static final int UNKNOWN = -1000000;

    /** How deep parts of lenses behind one another are looked at, to find a simpler lens. */
    private static final int MOST_LOOKED = 12;

    /** A row has no kid without a position in its sources or views, so it has at most 60 and 60 of them. */
    private static final int MOST_KIDS = 2 * MOST_POSITIONS;

    private static final int SOURCE = 0;
    private static final int VIEW = 1;

    private static final int COPY = 0;
    private static final int KEY = 1;
    private static final int DEL = 2;
    private static final int INS = 3;
    private static final int ROW = 4;
    private static final int BRANCHES = 5;
    private static final int STAR = 6;
    private static final int DICT = 7;
    private static final int THEN = 8;

    private static final int CANT_STAND = 1;
    private static final int WRONG_NAME = 2;
    private static final int TOO_MANY = 3;
    private static final int SOURCES_MEET = 4;
    private static final int VIEWS_MEET = 5;
    private static final int SOURCES_RUN = 6;
    private static final int VIEWS_RUN = 7;
    private static final int SOURCES_REPEAT = 8;
    private static final int VIEWS_REPEAT = 9;
    private static final int NOT_OF_UNIT = 10;
    private static final int WITHOUT_KEY = 11;
    private static final int NOT_SAME = 12;
    private static final int WITHIN_UNIT = 13;

    /** The symbols by their ranks: everywhere inside a symbol is its rank, so that a set of them is a long. */
    private static final int[] BYTES = {
        32, 44, 45, 47, 48, 49, 50, 51, 52, 53, 54, 55, 56, 57, 58, 59,
        97, 98, 99, 100, 101, 102, 103, 104, 105, 106, 107, 108, 109,
        110, 111, 112, 113, 114, 115, 116, 117, 118, 119, 120, 121, 122};

    private final Text[] slots = new Text[MOST_SLOTS];
    private final Walker walker = new Walker();
    private final Reader reader = new Reader(walker);
    private final Machine machine = new Machine();
    private final Trial trial = new Trial();
    private final Desk desk = new Desk();

    public PutBack() {
        for (int i = 0; i < MOST_SLOTS; i++) {
            slots[i] = new Text();
        }
    }

    public int feed(int a, int b, int c, int d, int e) {
        if (reader.length + FED_BYTES > TAPE_BYTES) {
            return NONE;
        }
        reader.take(a);
        reader.take(b);
        reader.take(c);
        reader.take(d);
        reader.take(e);
        return reader.length;
    }

    public boolean end(int n) {
        if (n < 0 || n > reader.length) {
            return false;
        }
        reader.length = n;
        return true;
    }

    public int lens() {
        int number = reader.readDefinition();
        reader.length = 0;
        return number;
    }

    public int fault(int what) {
        switch (what) {
            case 0:
                return reader.fault;
            case 1:
                return reader.faultPlace;
            case 2:
                return reader.shownBy;
            default:
                return NONE;
        }
    }

    public int text(int slot) {
        Text target = slotAt(slot);
        boolean good = target != null && reader.isText();
        if (good) {
            reader.spellInto(target);
        }
        reader.length = 0;
        return good ? target.length : NONE;
    }

    public int symbol(int slot, int i) {
        Text told = slotAt(slot);
        if (told == null) {
            return NONE;
        }
        if (i == NONE) {
            return told.length;
        }
        return i >= 0 && i < told.length ? byteOf(told.ranks[i]) : NONE;
    }

    public int fits(int lens, int side, int slot) {
        TextSet asked = setAt(lens, side);
        Text told = slotAt(slot);
        if (asked == null || told == null) {
            return NONE;
        }
        return asked.has(told) ? 1 : 0;
    }

    public int get(int lens, int slot, int into) {
        Lens told = lensAt(lens);
        Text source = slotAt(slot);
        Text target = slotAt(into);
        if (told == null || source == null || target == null || !machine.shows(told, source, target)) {
            return NONE;
        }
        return target.length;
    }

    public int put(int lens, int view, int source, int into) {
        Lens told = lensAt(lens);
        Text from = slotAt(view);
        Text old = slotAt(source);
        Text target = slotAt(into);
        if (told == null || from == null || old == null || target == null) {
            return NONE;
        }
        return machine.putsBack(told, from, old, target) ? target.length : NONE;
    }

    public int create(int lens, int view, int into) {
        Lens told = lensAt(lens);
        Text from = slotAt(view);
        Text target = slotAt(into);
        if (told == null || from == null || target == null) {
            return NONE;
        }
        return machine.putsBack(told, from, null, target) ? target.length : NONE;
    }

    public long many(int lens, int side, int n) {
        TextSet asked = setAt(lens, side);
        if (asked == null || n < 0 || n > MOST_COUNTED) {
            return NONE;
        }
        return walker.textsOf(asked, n);
    }

    public int nth(int lens, int side, int i, int into) {
        TextSet asked = setAt(lens, side);
        Text target = slotAt(into);
        if (asked == null || target == null || i < 0 || i > LAST_TOLD) {
            return NONE;
        }
        return walker.find(asked, i, target) ? target.length : NONE;
    }

    public int compare(int lens, int side, int other, int otherSide) {
        TextSet one = setAt(lens, side);
        TextSet two = setAt(other, otherSide);
        return one == null || two == null ? NONE : walker.relation(one, two);
    }

    public int set(int lens, int side, int what) {
        TextSet asked = setAt(lens, side);
        if (asked == null) {
            return NONE;
        }
        switch (what) {
            case 0:
                return asked.count;
            case 1:
                return Long.bitCount(asked.first);
            case 2:
                return Long.bitCount(asked.last);
            case 3:
                return asked.hasEmpty ? 1 : 0;
            default:
                return NONE;
        }
    }

    public int goesOn(int lens, int side, int slot, int i) {
        TextSet asked = setAt(lens, side);
        Text told = slotAt(slot);
        int state = asked == null || told == null ? NONE : asked.stateBehind(told);
        if (state == NONE) {
            return NONE;
        }
        long signs = asked.signsOf(asked.positionsBehind(state));
        if (i == NONE) {
            return Long.bitCount(signs);
        }
        if (i < 0 || i >= Long.bitCount(signs)) {
            return NONE;
        }
        for (int k = 0; k < i; k++) {
            signs &= signs - 1;
        }
        return byteOf(lowest(signs));
    }

    public int parts(int lens, int slot) {
        Lens outermost = repeatedOf(lensAt(lens));
        Text view = slotAt(slot);
        if (outermost == null || view == null) {
            return NONE;
        }
        return machine.countParts(outermost, view);
    }

    public int aligned(int lens, int view, int source, int i) {
        Lens told = lensAt(lens);
        Text from = slotAt(view);
        Text old = slotAt(source);
        if (told == null || told.kind == THEN || repeatedOf(told) == null || from == null || old == null) {
            return NONE;
        }
        return machine.partInto(told, from, old, i);
    }

    public int key(int lens, int slot, int i, int into) {
        Lens outermost = repeatedOf(lensAt(lens));
        Text view = slotAt(slot);
        Text target = slotAt(into);
        if (outermost == null || view == null || target == null) {
            return NONE;
        }
        return machine.partKey(outermost, view, i, target) ? target.length : NONE;
    }

    public int laws(int lens, int kind, int n) {
        Lens told = lensAt(lens);
        if (told == null || n < 1 || n > MOST_TRIED || kind < 0 || kind > 3) {
            return NONE;
        }
        trial.gather(told, n, walker);
        switch (kind) {
            case 0:
                return trial.brokenShown(told, machine);
            case 1:
                return trial.brokenPut(told, machine);
            case 2:
                return trial.brokenTwice(told, machine);
            default:
                return trial.brokenAnew(told, machine);
        }
    }

    public int open(int lens, int slot) {
        Lens told = lensAt(lens);
        Text source = slotAt(slot);
        if (told == null || source == null || !desk.begin(told, lens, source, machine)) {
            return NONE;
        }
        return desk.view.length;
    }

    public int edit(int side, int at, int gone, int slot) {
        if (desk.lens == null) {
            return NONE;
        }
        Text comes = slotAt(slot);
        boolean good = (side == SOURCE || side == VIEW) && comes != null
            && desk.change(side, at, gone, comes, machine);
        if (!good) {
            desk.refused++;
            return NONE;
        }
        return desk.textOf(1 - side).length;
    }

    public boolean undo() {
        return desk.takeBack();
    }

    public int copy(int side, int into) {
        Text target = slotAt(into);
        if (desk.lens == null || target == null || (side != SOURCE && side != VIEW)) {
            return NONE;
        }
        target.become(desk.textOf(side));
        return target.length;
    }

    public int moved(int what) {
        if (!desk.hasMoved) {
            return NONE;
        }
        switch (what) {
            case 0:
                return desk.stayed;
            case 1:
                return desk.went;
            case 2:
                return desk.came;
            default:
                return NONE;
        }
    }

    public int join(int slot, int other, int into) {
        Text one = slotAt(slot);
        Text two = slotAt(other);
        Text target = slotAt(into);
        if (one == null || two == null || target == null || !desk.spare.splice(one, one.length, 0, two)) {
            return NONE;
        }
        target.become(desk.spare);
        return target.length;
    }

    public int cut(int slot, int from, int many, int into) {
        Text told = slotAt(slot);
        Text target = slotAt(into);
        if (told == null || target == null || !told.reaches(from, many)) {
            return NONE;
        }
        target.fill(told.ranks, from, many);
        return target.length;
    }

    public int look(int what) {
        switch (what) {
            case 0:
                return reader.told;
            case 1:
                return reader.length;
            case 2:
                return desk.number;
            case 3:
                return desk.kept;
            case 4:
                return desk.refused;
            default:
                return NONE;
        }
    }

    private Text slotAt(int slot) {
        return slot >= 0 && slot < MOST_SLOTS ? slots[slot] : null;
    }

    private Lens lensAt(int number) {
        return number >= 0 && number < reader.told ? reader.lenses[number] : null;
    }

    private TextSet setAt(int number, int side) {
        Lens told = lensAt(number);
        if (told == null || (side != SOURCE && side != VIEW)) {
            return null;
        }
        return side == SOURCE ? told.source : told.view;
    }

    /** The * or dict that a lens is, or that the last one of "then" is; null if there is none. */
    private static Lens repeatedOf(Lens told) {
        Lens found = told;
        for (int i = 0; i <= MOST_LENSES && found != null && found.kind == THEN; i++) {
            found = found.lastLink();
        }
        return found != null && (found.kind == STAR || found.kind == DICT) ? found : null;
    }

    private static int rankOf(int b) {
        if (b >= 'a' && b <= 'z') {
            return b - 'a' + 16;
        }
        if (b >= '0' && b <= ';') {
            return b - '0' + 4;
        }
        switch (b) {
            case ' ':
                return 0;
            case ',':
                return 1;
            case '-':
                return 2;
            case '/':
                return 3;
            default:
                return NONE;
        }
    }

    private static int byteOf(int rank) {
        return rank >= 0 && rank < BYTES.length ? BYTES[rank] : NONE;
    }

    private static int lowest(long bits) {
        return Long.bitCount((bits & -bits) - 1);
    }

    private static boolean isIn(long bits, int i) {
        return ((bits >>> i) & 1L) != 0;
    }

    /** A text of up to 60 symbols, each by its rank. */
    private static final class Text {
        final byte[] ranks = new byte[LONGEST];
        int length;

        void fill(byte[] from, int at, int many) {
            if (at >= 0 && many >= 0 && many <= LONGEST && at <= from.length - many) {
                System.arraycopy(from, at, ranks, 0, many);
                length = many;
            }
        }

        void become(Text other) {
            fill(other.ranks, 0, other.length);
        }

        boolean reaches(int from, int many) {
            return from >= 0 && many >= 0 && from <= length && many <= length - from;
        }

        boolean isLike(Text other) {
            boolean like = length == other.length;
            for (int i = 0; i < length && like; i++) {
                like = ranks[i] == other.ranks[i];
            }
            return like;
        }

        /** Becomes another text in which 'gone' symbols went and a third text came; false if it can't be. */
        boolean splice(Text old, int at, int gone, Text comes) {
            if (!old.reaches(at, gone) || old.length - gone + comes.length > LONGEST) {
                return false;
            }
            int behind = at + gone;
            System.arraycopy(old.ranks, 0, ranks, 0, at);
            System.arraycopy(comes.ranks, 0, ranks, at, comes.length);
            System.arraycopy(old.ranks, behind, ranks, at + comes.length, old.length - behind);
            length = old.length - gone + comes.length;
            return true;
        }
    }

    /**
     * A set of texts by its positions. No two positions that are open at once share a symbol (the reader
     * refuses what would), so that a text goes through the set in one way alone.
     */
    private static final class TextSet {
        /** The state ahead of the first symbol; the others are the positions. */
        static final int START = MOST_POSITIONS;

        final int count;
        final long[] allowed;
        final long[] behind;
        long first;
        long last;
        boolean hasEmpty;
        /** Whether a position may come again; else no text is longer than there are positions. */
        boolean isEndless;

        TextSet(int positions) {
            count = Math.max(0, Math.min(positions, MOST_POSITIONS));
            allowed = new long[count];
            behind = new long[count];
        }

        static TextSet ofQuoted(byte[] ranks, int many) {
            TextSet made = new TextSet(Math.min(many, ranks.length));
            for (int i = 0; i < made.count; i++) {
                made.allowed[i] = 1L << ranks[i];
                made.behind[i] = i + 1 < made.count ? 2L << i : 0L;
            }
            made.hasEmpty = made.count == 0;
            made.first = made.hasEmpty ? 0L : 1L;
            made.last = made.hasEmpty ? 0L : 1L << (made.count - 1);
            return made;
        }

        static TextSet ofSigns(long signs) {
            TextSet made = new TextSet(1);
            made.allowed[0] = signs;
            made.first = 1L;
            made.last = 1L;
            return made;
        }

        static TextSet chain(TextSet a, TextSet b) {
            TextSet made = new TextSet(a.count + b.count);
            made.place(a, 0);
            made.place(b, a.count);
            long firstOfB = b.first << a.count;
            made.linkBehind(a.last, firstOfB);
            made.first = a.hasEmpty ? a.first | firstOfB : a.first;
            made.last = (b.last << a.count) | (b.hasEmpty ? a.last : 0L);
            made.hasEmpty = a.hasEmpty && b.hasEmpty;
            return made;
        }

        static TextSet either(TextSet a, TextSet b) {
            TextSet made = new TextSet(a.count + b.count);
            made.place(a, 0);
            made.place(b, a.count);
            made.first = a.first | (b.first << a.count);
            made.last = a.last | (b.last << a.count);
            made.hasEmpty = a.hasEmpty || b.hasEmpty;
            return made;
        }

        TextSet orEmpty() {
            TextSet made = new TextSet(count);
            made.place(this, 0);
            made.first = first;
            made.last = last;
            made.hasEmpty = true;
            return made;
        }

        TextSet repeated(boolean orEmpty) {
            TextSet made = new TextSet(count);
            made.place(this, 0);
            made.linkBehind(last, first);
            made.first = first;
            made.last = last;
            made.hasEmpty = hasEmpty || orEmpty;
            made.isEndless = count > 0;
            return made;
        }

        private void place(TextSet other, int offset) {
            isEndless |= other.isEndless;
            for (int p = 0; p < other.count && p + offset < count; p++) {
                allowed[p + offset] = other.allowed[p];
                behind[p + offset] = other.behind[p] << offset;
            }
        }

        private void linkBehind(long from, long to) {
            for (int p = 0; p < count; p++) {
                if (((from >>> p) & 1L) != 0) {
                    behind[p] |= to;
                }
            }
        }

        long signsOf(long positions) {
            long signs = 0;
            for (int p = 0; p < count; p++) {
                if (((positions >>> p) & 1L) != 0) {
                    signs |= allowed[p];
                }
            }
            return signs;
        }

        long positionsBehind(int state) {
            return state >= 0 && state < count ? behind[state] : first;
        }

        boolean endsIn(int state) {
            return state == START ? hasEmpty : isIn(last, state);
        }

        /** The symbols by which this set and another one meet. */
        long meets(TextSet other) {
            return signsOf(first) & other.signsOf(other.first);
        }

        /** The symbols by which this set runs into another one. */
        long runsInto(TextSet other) {
            long further = hasEmpty ? first : 0L;
            for (int p = 0; p < count; p++) {
                if (isIn(last, p)) {
                    further |= behind[p];
                }
            }
            return signsOf(further) & other.signsOf(other.first);
        }

        /** The one position to which a symbol leads, NONE if it can't stand there. */
        int step(int state, int rank) {
            for (long open = positionsBehind(state); open != 0; open &= open - 1) {
                int p = lowest(open);
                if (p < count && isIn(allowed[p], rank)) {
                    return p;
                }
            }
            return NONE;
        }

        /**
         * Where the longest way from a place on ends, NONE if no text of the set ends there. What comes behind
         * never begins with a symbol that could go on, so this is where the set's part ends.
         */
        int runEnd(byte[] ranks, int from, int to) {
            long open = first;
            boolean ends = hasEmpty;
            int at = from;
            while (at >= 0 && at < to && at < ranks.length) {
                int next = NONE;
                for (long rest = open; rest != 0 && next == NONE; rest &= rest - 1) {
                    int p = Long.bitCount((rest & -rest) - 1);
                    if (p < count && ((allowed[p] >>> ranks[at]) & 1L) != 0) {
                        next = p;
                    }
                }
                if (next == NONE) {
                    break;
                }
                open = behind[next];
                ends = ((last >>> next) & 1L) != 0;
                at++;
            }
            return ends ? at : NONE;
        }

        boolean has(Text asked) {
            return runEnd(asked.ranks, 0, asked.length) == asked.length;
        }

        /** The length that all texts of the set have, NONE if they have several. */
        int onlyLength() {
            long open = first;
            if (hasEmpty || count == 0) {
                return count == 0 ? 0 : NONE;
            }
            for (int n = 1; n <= count; n++) {
                long further = 0;
                for (long some = open; some != 0; some &= some - 1) {
                    int p = Long.bitCount((some & -some) - 1);
                    further |= p < count ? behind[p] : 0L;
                }
                if ((open & last) != 0) {
                    return (open & ~last) == 0 && further == 0 ? n : NONE;
                }
                open = further;
            }
            return NONE;
        }

        /** Whether there is one text alone. */
        boolean isOneText() {
            boolean one = onlyLength() == count;
            for (int p = 0; p < count && one; p++) {
                one = (allowed[p] & (allowed[p] - 1)) == 0;
            }
            return one;
        }

        byte[] leastSigns() {
            byte[] made = new byte[count];
            for (int p = 0; p < count; p++) {
                made[p] = (byte) lowest(allowed[p]);
            }
            return made;
        }

        int stateBehind(Text asked) {
            int state = START;
            for (int i = 0; i < asked.length && state != NONE; i++) {
                state = step(state, asked.ranks[i]);
            }
            return state;
        }
    }

    /** Goes through sets: compares two of them, counts the texts of one, finds a text by its number. */
    private static final class Walker {
        private static final int STATES = MOST_POSITIONS + 1;

        private final long[] seen = new long[STATES];
        private final int[] waiting = new int[STATES * STATES];
        private int waits;
        /** In row k: behind each position, how many texts of k symbols lead to an end. */
        private final long[] ways = new long[MOST_COUNTED * MOST_POSITIONS];
        private TextSet counted;
        private int rows;

        /** Over all pairs of states that one text leads to in both sets. */
        int relation(TextSet a, TextSet b) {
            boolean moreInA = false;
            boolean moreInB = false;
            if (a == b) {
                return 0;
            }
            Arrays.fill(seen, 0L);
            waits = 0;
            note(TextSet.START, TextSet.START);
            for (int i = 0; i < waits && i < waiting.length && !(moreInA && moreInB); i++) {
                int p = waiting[i] / STATES;
                int q = waiting[i] % STATES;
                long signsA = a.signsOf(a.positionsBehind(p));
                long signsB = b.signsOf(b.positionsBehind(q));
                // From every position some text of its set goes on to an end.
                moreInA |= (signsA & ~signsB) != 0 || (a.endsIn(p) && !b.endsIn(q));
                moreInB |= (signsB & ~signsA) != 0 || (b.endsIn(q) && !a.endsIn(p));
                noteBehind(a, p, b, q);
            }
            if (moreInA) {
                return moreInB ? 3 : 2;
            }
            return moreInB ? 1 : 0;
        }

        private void noteBehind(TextSet a, int p, TextSet b, int q) {
            for (long ofA = a.positionsBehind(p); ofA != 0; ofA &= ofA - 1) {
                int x = lowest(ofA);
                for (long ofB = b.positionsBehind(q); ofB != 0; ofB &= ofB - 1) {
                    int y = lowest(ofB);
                    if (x < a.count && y < b.count && (a.allowed[x] & b.allowed[y]) != 0) {
                        note(x, y);
                    }
                }
            }
        }

        private void note(int p, int q) {
            if (p < STATES && ((seen[p] >>> q) & 1L) == 0 && waits < waiting.length) {
                seen[p] |= 1L << q;
                waiting[waits] = p * STATES + q;
                waits++;
            }
        }

        long textsOf(TextSet asked, int n) {
            if (n <= 0 || n > MOST_COUNTED) {
                return n == 0 && asked.hasEmpty ? 1L : 0L;
            }
            countUpTo(asked, n);
            return sumOver(asked, asked.first, n - 1);
        }

        boolean find(TextSet asked, int i, Text into) {
            long left = i;
            for (int n = 0; n <= MOST_COUNTED; n++) {
                long here = textsOf(asked, n);
                if (left < here) {
                    spell(asked, n, left, into);
                    return true;
                }
                left -= here;
            }
            return false;
        }

        private void countUpTo(TextSet asked, int wanted) {
            if (counted != asked) {
                counted = asked;
                rows = 0;
            }
            while (rows < wanted && rows < MOST_COUNTED) {
                for (int p = 0; p < asked.count; p++) {
                    ways[rows * MOST_POSITIONS + p] = rows == 0
                        ? (isIn(asked.last, p) ? 1L : 0L)
                        : sumOver(asked, asked.behind[p], rows - 1);
                }
                rows++;
            }
        }

        private long sumOver(TextSet asked, long positions, int row) {
            long sum = 0;
            for (long open = positions; open != 0; open &= open - 1) {
                int p = lowest(open);
                if (p < asked.count) {
                    sum = Math.min(MOST_MANY, sum + times(ways[row * MOST_POSITIONS + p], asked.allowed[p]));
                }
            }
            return sum;
        }

        private static long times(long ways, long signs) {
            int many = Math.max(1, Long.bitCount(signs));
            return ways > MOST_MANY / many ? MOST_MANY : ways * many;
        }

        private void spell(TextSet asked, int n, long number, Text into) {
            int state = TextSet.START;
            long left = number;
            for (int at = 0; at < n && at < LONGEST; at++) {
                int row = n - 1 - at;
                for (int rank = 0; rank < BYTES.length; rank++) {
                    int next = asked.step(state, rank);
                    long here = next == NONE ? 0L : ways[row * MOST_POSITIONS + next];
                    if (left < here) {
                        into.ranks[at] = (byte) rank;
                        state = next;
                        break;
                    }
                    left -= here;
                }
            }
            into.length = n;
        }
    }

    /** A lens: a leaf, or a kind of combination of its kids. */
    private static final class Lens {
        final int kind;
        final TextSet source;
        final TextSet view;
        final Lens[] kids;
        final boolean hasKey;
        /** Of a row: which kid stands where in the view. */
        int[] order = new int[0];
        /** Of a row: the two of which it was made. */
        Lens[] halves = new Lens[0];
        /** Of branches: whether a kid's views are those of all kids ahead of it. */
        boolean[] same = new boolean[0];
        /** The quoted text of a del or an ins. */
        byte[] quoted = new byte[0];
        /** Of "then" as it was told: another lens that does the same. */
        Lens simpler;
        /** Of "then": by which number its answers are recalled, 0 if none were yet. */
        int number;
        /** Of "then": as grows() tells, and whether each link goes back to one source, whatever it is put into. */
        int growth;
        boolean linksOneToOne;
        /** How often the lens of which it is made stands behind itself. */
        long power = 1;
        /** Of "then": whether all kids are stepwise; else of a lens that is so: which positions stay as they are. */
        boolean stepwise;
        long kept;
        /** Of "then": the words (above 0) that show and make by it, and in which time of the words they are so. */
        int shownBy;
        int madeBy;
        int time;
        /** How many parts it has, those of lenses that it names too. */
        int weight = 1;

        private Lens(int kind, TextSet source, TextSet view, Lens[] kids, boolean hasKey) {
            this.kind = kind;
            this.source = source;
            this.view = view;
            this.kids = kids;
            this.hasKey = hasKey;
        }

        static Lens leaf(int kind, TextSet source, TextSet view) {
            return new Lens(kind, source, view, new Lens[0], kind == KEY);
        }

        /** Rows and swaps within one another are one row, so that no lens is deep without need. */
        static Lens row(Lens left, Lens right, boolean swapped) {
            int a = left.kidsInRow();
            int b = right.kidsInRow();
            TextSet sources = TextSet.chain(left.source, right.source);
            TextSet views = swapped ? TextSet.chain(right.view, left.view) : TextSet.chain(left.view, right.view);
            Lens made = new Lens(ROW, sources, views, new Lens[a + b], left.hasKey || right.hasKey);
            made.order = new int[a + b];
            made.placeInRow(left, 0, swapped ? b : 0);
            made.placeInRow(right, a, swapped ? 0 : a);
            made.weight = weightOf(left, right);
            made.halves = new Lens[] {left, right};
            return made;
        }

        static int weightOf(Lens left, Lens right) {
            return Math.min(MOST_WEIGHT, left.weight + right.weight);
        }

        /** What has the empty text alone on both sides adds nothing: without it a row stays short. */
        private int kidsInRow() {
            if (kind == ROW) {
                return kids.length;
            }
            return source.count == 0 && view.count == 0 ? 0 : 1;
        }

        private void placeInRow(Lens part, int at, int viewAt) {
            int many = part.kidsInRow();
            for (int i = 0; i < many && at + i < kids.length && viewAt + i < order.length; i++) {
                boolean isRow = part.kind == ROW && i < part.kids.length && i < part.order.length;
                kids[at + i] = isRow ? part.kids[i] : part;
                order[viewAt + i] = at + (isRow ? part.order[i] : i);
            }
        }

        static Lens branches(Lens left, Lens right, boolean sameViews) {
            TextSet sources = TextSet.either(left.source, right.source);
            TextSet views = sameViews ? left.view : TextSet.either(left.view, right.view);
            boolean key = left.hasKey || (!sameViews && right.hasKey);
            Lens made = new Lens(BRANCHES, sources, views, kidsBehind(left, BRANCHES, right), key);
            int many = made.kids.length;
            made.same = new boolean[many];
            System.arraycopy(left.same, 0, made.same, 0, Math.min(left.same.length, many));
            made.same[many - 1] = sameViews;
            made.weight = weightOf(left, right);
            return made;
        }

        static Lens repeated(int kind, Lens body) {
            Lens[] one = {body};
            boolean key = kind == STAR && body.hasKey;
            Lens made = new Lens(kind, body.source.repeated(true), body.view.repeated(true), one, key);
            made.weight = body.weight;
            return made;
        }

        /** Its keys and its parts are those of the last one. */
        static Lens then(Lens[] links, int many) {
            Lens last = links[many - 1];
            Lens made = new Lens(THEN, links[0].source, last.view, new Lens[many], last.hasKey);
            System.arraycopy(links, 0, made.kids, 0, many);
            made.weight = weightOfAll(made.kids);
            made.growth = made.growthOfLinks();
            made.linksOneToOne = made.hasLinksOneToOne();
            made.power = made.powerOfLinks();
            made.stepwise = made.hasKidsStepwise();
            return made;
        }

        static int weightOfAll(Lens[] some) {
            int sum = 0;
            for (int i = 0; i < some.length; i++) {
                sum = Math.min(MOST_WEIGHT, sum + some[i].weight);
            }
            return sum;
        }

        /** From the left: what stands left of a sign and is of its kind goes on with one kid more. */
        private static Lens[] kidsBehind(Lens left, int kind, Lens right) {
            int ahead = left.kind == kind ? left.kids.length : 1;
            Lens[] made = new Lens[ahead + 1];
            for (int i = 0; i < ahead; i++) {
                made[i] = left.kind == kind ? left.kids[i] : left;
            }
            made[ahead] = right;
            return made;
        }

        Lens firstKid() {
            return kids.length > 0 ? kids[0] : null;
        }

        /** Whether a view is always as its source is. */
        boolean isPlain(int depth) {
            boolean plain = depth < MOST_LOOKED && kind != THEN;
            if (kind == DEL || kind == INS) {
                return source.count == 0 && view.count == 0;
            }
            for (int i = 0; i < order.length && plain; i++) {
                plain = order[i] == i;
            }
            for (int i = 0; i < kids.length && plain; i++) {
                Lens kid = kids[i].simpler != null ? kids[i].simpler : kids[i];
                plain = kid.isPlain(depth + 1);
            }
            return plain;
        }

        /** By how much a view is always longer than its source, UNKNOWN if it isn't always as much or can't be told. */
        int grows(int depth) {
            int ofSource = source.onlyLength();
            int ofView = view.onlyLength();
            if (kind == COPY || kind == KEY) {
                return 0;
            }
            if (ofSource != NONE && ofView != NONE) {
                return ofView - ofSource;
            }
            if (kind == THEN) {
                return growth;
            }
            if (kids.length == 0 || depth >= MOST_LOOKED) {
                return UNKNOWN;
            }
            if (kind == ROW) {
                return growthInRow(depth);
            }
            int sum = kids[0].grows(depth + 1);
            for (int i = 1; i < kids.length; i++) {
                sum = kids[i].grows(depth + 1) == sum ? sum : UNKNOWN;
            }
            return sum == 0 || kind == BRANCHES ? sum : UNKNOWN;
        }

        private int growthInRow(int depth) {
            int sum = 0;
            int latest = 0;
            for (int i = 0; i < kids.length && sum != UNKNOWN; i++) {
                latest = i > 0 && kids[i] == kids[i - 1] ? latest : kids[i].grows(depth + 1);
                sum = latest == UNKNOWN ? UNKNOWN : sum + latest;
            }
            return sum;
        }

        /** As grows() tells; UNKNOWN also if a text in the midst may be too long, though neither source nor view is. */
        private int growthOfLinks() {
            int sum = 0;
            int latest = 0;
            for (int i = 0; i < kids.length && sum != UNKNOWN; i++) {
                latest = i > 0 && kids[i] == kids[i - 1] ? latest : kids[i].grows(1);
                boolean tooLong = sum > 0 && source.isEndless;
                sum = latest == UNKNOWN || tooLong ? UNKNOWN : sum + latest;
            }
            return sum;
        }

        /** Whether a view is always as long as its source, and no text in the midst too long: no source is without one. */
        boolean isEven() {
            return grows(0) == 0;
        }

        /** Whether a view goes back to one source, whatever it is put into, with no text in the midst too long. */
        boolean isOneToOne(int depth) {
            switch (kind) {
                case DEL:
                    return source.isOneText();
                case ROW:
                case STAR:
                    return hasKidsOneToOne(depth, false);
                case BRANCHES:
                    return !hasSameViews() && hasKidsOneToOne(depth, false);
                case DICT:
                    return hasKidsOneToOne(depth, true);
                case THEN:
                    return linksOneToOne && growth == 0;
                default:
                    return true;
            }
        }

        private boolean hasKidsOneToOne(int depth, boolean even) {
            boolean good = depth < MOST_LOOKED;
            for (int i = 0; i < kids.length && good; i++) {
                boolean again = i > 0 && kids[i] == kids[i - 1];
                good = again || (kids[i].isOneToOne(depth + 1) && (!even || kids[i].grows(0) == 0));
            }
            return good;
        }

        private boolean hasLinksOneToOne() {
            boolean good = true;
            for (int i = 0; i < kids.length && good; i++) {
                boolean again = i > 0 && kids[i] == kids[i - 1];
                good = again || (kids[i].kind == THEN ? kids[i].linksOneToOne : kids[i].isOneToOne(1));
            }
            return good;
        }

        /** The links may be one lens so often each: all of them are that lens as often as they tell together. */
        private long powerOfLinks() {
            long sum = 0;
            for (int i = 0; i < kids.length; i++) {
                boolean again = i > 0 && kids[i] == kids[i - 1];
                if (!again && kids[i].base() != kids[0].base()) {
                    return 1;
                }
                sum += kids[i].power;
            }
            return Math.max(1, sum);
        }

        /** What stands there as often as 'power' tells. */
        Lens base() {
            Lens found = this;
            for (int i = 0; i <= MOST_LENSES && found.power > 1 && found.kids.length > 0; i++) {
                found = found.kids[0];
            }
            return found;
        }

        /** Of "then": what stands behind all others, which has its keys and parts. */
        Lens lastLink() {
            return kids.length > 0 ? kids[kids.length - 1] : null;
        }

        private boolean hasKidsStepwise() {
            boolean good = true;
            for (int i = 0; i < kids.length && good; i++) {
                boolean again = i > 0 && kids[i] == kids[i - 1];
                good = again || (kids[i].kind == THEN ? kids[i].stepwise : kids[i].isStepwise(0));
            }
            return good;
        }

        /**
         * Whether each symbol of a source becomes one of its view by itself: then position p of the one set goes with
         * position p of the other one. Either a symbol stays (the kept ones), or one stands for one.
         */
        private boolean isStepwise(int depth) {
            int inSource = 0;
            int inView = 0;
            boolean good = depth < MOST_LOOKED && kind != THEN && !hasSameViews();
            long staying = 0;
            if (kind == COPY || kind == KEY) {
                inSource = source.count;
                inView = view.count;
                staying = (1L << inSource) - 1;
            }
            for (int i = 0; i < kids.length && good; i++) {
                Lens kid = kids[i];
                if (kid.kind == DEL || kid.kind == INS) {
                    good = kid.kind == INS || kid.source.isOneText();
                } else {
                    good = inSource == inView && kid.isStepwise(depth + 1);
                    staying |= kid.kept << inSource;
                }
                good = good && (kind != ROW || order[i] == i);
                inSource += kid.source.count;
                inView += kid.view.count;
                good = good && (kind == ROW || inSource == inView);
            }
            good = good && inSource == inView && inSource == source.count && inView == view.count;
            // What was found once stays, though the lens may be a part of others that lies too deep to be looked at.
            kept = good ? staying : kept;
            return good;
        }

        private boolean hasSameViews() {
            boolean found = false;
            for (int i = 0; i < same.length; i++) {
                found |= same[i];
            }
            return found;
        }

        /**
         * A lens that shows, puts back and makes anew as these do one behind another. Tapes may name lenses so often
         * that nobody could wait for all of them one by one: so what changes nothing is left out, and rows, branches
         * and repetitions behind others that are split alike become one, of parts behind parts.
         */
        static Lens joined(Lens[] links, int many, Walker walker, int depth) {
            Lens[] some = new Lens[many];
            int count = 0;
            boolean plain = false;
            boolean texts = true;
            for (int i = 0; i < many; i++) {
                boolean again = i > 0 && links[i] == links[i - 1];
                Lens each = links[i].simpler != null ? links[i].simpler : links[i];
                plain = again ? plain : each.isPlain(depth);
                texts = texts && (again || (each.source.isOneText() && each.view.isOneText()));
                // What the one ahead of the last one shows must not be too long, so that the last one can't go then.
                if (!plain || (i == many - 1 && (count == 0 || !some[count - 1].isEven()))) {
                    some[count] = each;
                    count++;
                }
            }
            if (count == 1) {
                return some[0];
            }
            if (texts) {
                return oneForOne(some[0].source, some[count - 1].view);
            }
            Lens found = depth < MOST_LOOKED ? joinedParts(some, count, walker, depth) : null;
            if (found == null && depth < MOST_LOOKED && some[0].kind == ROW) {
                found = joinedHalves(some, count, walker, depth);
            }
            return found != null ? found : then(some, count);
        }

        /** Rows that aren't split alike may be so if the parts of each half are taken together. */
        private static Lens joinedHalves(Lens[] some, int count, Walker walker, int depth) {
            Lens[] pairs = new Lens[count];
            for (int i = 0; i < count; i++) {
                boolean again = i > 0 && some[i] == some[i - 1];
                pairs[i] = again ? pairs[i - 1] : some[i].asPair();
                if (pairs[i].kids.length != 2) {
                    return null;
                }
            }
            return joinedParts(pairs, count, walker, depth);
        }

        private Lens asPair() {
            if (halves.length != 2) {
                return this;
            }
            Lens made = new Lens(kind, source, view, halves, hasKey);
            boolean swapped = order.length > 0 && order[0] >= halves[0].kidsInRow();
            made.order = new int[] {swapped ? 1 : 0, swapped ? 0 : 1};
            made.weight = weight;
            return made;
        }

        /** One text for another one. */
        private static Lens oneForOne(TextSet source, TextSet view) {
            Lens gone = leaf(DEL, source, TextSet.ofQuoted(new byte[0], 0));
            Lens come = leaf(INS, gone.view, view);
            gone.quoted = source.leastSigns();
            come.quoted = view.leastSigns();
            boolean same = source.count == view.count;
            for (int i = 0; i < source.count && same; i++) {
                same = gone.quoted[i] == come.quoted[i];
            }
            return same ? leaf(COPY, source, view) : row(gone, come, false);
        }

        private static boolean canJoin(Lens lens, Lens first) {
            boolean repeats = first.kind == STAR || first.kind == DICT;
            boolean alike = repeats ? lens.kind == STAR || (lens.kind == DICT && lens.isOneToOne(0))
                : lens.kind == first.kind && (lens.kind == ROW || lens.kind == BRANCHES);
            return alike && lens.kids.length == first.kids.length && !lens.hasSameViews() && lens.isEven();
        }

        /** One lens of which each part is made of parts behind parts; null if the lenses aren't split alike. */
        private static Lens joinedParts(Lens[] some, int count, Walker walker, int depth) {
            Lens first = some[0];
            int parts = first.kids.length;
            boolean good = true;
            for (int i = 0; i < count && good; i++) {
                good = (i > 0 && some[i] == some[i - 1]) || canJoin(some[i], first);
            }
            int[] paths = new int[good ? count * parts : 0];
            if (!good || !follow(some, count, paths, walker)) {
                return null;
            }
            Lens[] column = new Lens[count];
            Lens[] kids = new Lens[parts];
            int[] ends = new int[parts];
            for (int k = 0; k < parts; k++) {
                for (int i = 0; i < count; i++) {
                    column[i] = some[i].kids[paths[i * parts + k]];
                }
                ends[paths[(count - 1) * parts + k]] = k;
                kids[k] = joined(column, count, walker, depth + 1);
            }
            return first.through(some[count - 1], kids, ends);
        }

        /** In row i: to which part of lens i each part of the first one comes. */
        private static boolean follow(Lens[] some, int count, int[] paths, Walker walker) {
            int parts = some[0].kids.length;
            int[] next = new int[parts];
            for (int k = 0; k < parts; k++) {
                paths[k] = k;
            }
            for (int i = 1; i < count; i++) {
                boolean again = i > 1 && some[i] == some[i - 1] && some[i - 1] == some[i - 2];
                if (!again && !pair(some[i - 1], some[i], next, walker)) {
                    return false;
                }
                for (int k = 0; k < parts; k++) {
                    paths[i * parts + k] = next[paths[(i - 1) * parts + k]];
                }
            }
            return true;
        }

        /** Which part of a lens takes what each part of the lens ahead of it shows. */
        private static boolean pair(Lens ahead, Lens behind, int[] next, Walker walker) {
            boolean good = true;
            for (int k = 0; k < ahead.kids.length && good; k++) {
                good = false;
                for (int j = 0; j < behind.kids.length && !good; j++) {
                    boolean there = ahead.kind != ROW || ahead.order[j] == k;
                    good = there && walker.relation(ahead.kids[k].view, behind.kids[j].source) == 0;
                    next[k] = j;
                }
            }
            return good;
        }

        /** The set of rows (each part at its place) or of branches on one side. */
        private TextSet setOf(Lens[] parts, int side, int[] places) {
            TextSet made = null;
            for (int i = 0; i < parts.length; i++) {
                Lens part = parts[i < places.length ? places[i] : i];
                TextSet next = side == SOURCE ? part.source : part.view;
                if (made == null) {
                    made = next;
                } else {
                    made = kind == ROW ? TextSet.chain(made, next) : TextSet.either(made, next);
                }
            }
            return made;
        }

        /** One lens of this one and of others of its kind up to the last one, whose kid i is kid ends[i] of it. */
        private Lens through(Lens last, Lens[] parts, int[] ends) {
            if (kind == STAR || kind == DICT) {
                // A dict of parts that go back to one source each puts back as a * does.
                return repeated(STAR, parts[0]);
            }
            int[] places = new int[order.length];
            int inSource = 0;
            int inView = 0;
            for (int i = 0; i < parts.length; i++) {
                inSource += parts[i].source.count;
                inView += parts[i].view.count;
                if (i < places.length) {
                    places[i] = ends[last.order[i]];
                }
            }
            // The sets are the same as before, but their positions are those of the parts, if these aren't too many.
            boolean own = inSource <= MOST_POSITIONS && inView <= MOST_POSITIONS;
            Lens made = new Lens(kind, own ? setOf(parts, SOURCE, new int[0]) : source,
                own ? setOf(parts, VIEW, places) : last.view, parts, last.hasKey);
            made.order = places;
            made.same = same;
            made.weight = weightOfAll(parts);
            return made;
        }
    }

    /**
     * Many stepwise lenses behind one another, symbol by symbol. Each is an atom: a lens, and the position of its set to
     * which it came. What is still to be done is a word: a row of elements, of which each is an atom or another word, so
     * many times. Words that are alike are one node, so that a lens that stands there some million times is one element,
     * and goes on as one.
     */
    private static final class Words {
        private static final int MOST_NODES = 8192;
        private static final int MOST_ATOMS = 512;
        private static final int MOST_STACKED = 8192;
        private static final int MOST_DEEP = 24;
        private static final int SYMBOLS = 42;
        /** More than there are symbols. */
        private static final int SIGNS = 64;

        final byte[] told = new byte[LONGEST];
        private Lens[] lenses = new Lens[0];
        private int[] states = new int[0];
        private int atoms;
        /** Of an element: what (an atom below 0, or a word), how often, NONE; of a word: an element, 0, the rest. */
        private int[] first = new int[0];
        private long[] times = new long[0];
        private int[] rest = new int[0];
        private int nodes;
        private int[] places = new int[0];
        /** Of an element and a symbol: what is to be done behind it (a word), and the symbol that comes out. */
        private int[] asked = new int[0];
        private int[] answers = new int[0];
        private int answered;
        private int[] stack = new int[0];
        private long[] stackTimes = new long[0];
        private int stacked;
        private int symbol;
        private boolean failed;
        private int time;

        /** What lenses show of a source, or make of a view: it is told; false if that took too much room. */
        boolean run(Lens then, int side, byte[] store, int from, int to) {
            begin();
            push(rootOf(then, side, 0), 1, true, 0);
            for (int i = from; i < to && i - from < LONGEST && !failed; i++) {
                int many = stacked;
                symbol = store[i];
                for (int k = 0; k < many && !failed; k++) {
                    push(stack[k], stackTimes[k], false, stacked);
                    int element = first[gather(stacked - 1)];
                    push(through(element, symbol, 0), 1, true, many);
                }
                told[i - from] = (byte) symbol;
                stacked = Math.max(0, stacked - many);
                System.arraycopy(stack, many, stack, 0, stacked);
                System.arraycopy(stackTimes, many, stackTimes, 0, stacked);
            }
            return !failed;
        }

        private void begin() {
            failed = false;
            stacked = 0;
            if (time == 0) {
                lenses = new Lens[MOST_ATOMS];
                states = new int[MOST_ATOMS];
                first = new int[MOST_NODES];
                times = new long[MOST_NODES];
                rest = new int[MOST_NODES];
                places = new int[2 * MOST_NODES];
                asked = new int[2 * MOST_NODES];
                answers = new int[2 * MOST_NODES];
                stack = new int[MOST_STACKED];
                stackTimes = new long[MOST_STACKED];
            } else if (nodes > MOST_NODES / 2 || atoms > MOST_ATOMS / 2 || answered > MOST_NODES / 2) {
                Arrays.fill(places, 0);
                Arrays.fill(asked, 0);
            } else {
                return;
            }
            // Node 0 is the empty word.
            nodes = 1;
            answered = 0;
            atoms = 0;
            time++;
        }

        private int rootOf(Lens then, int side, int depth) {
            int known = side == SOURCE ? then.shownBy : then.madeBy;
            if (then.time == time && known != 0) {
                return known - 1;
            }
            failed |= depth > MOST_LENSES;
            int base = stacked;
            for (int i = 0; i < then.kids.length && !failed; i++) {
                Lens kid = then.kids[side == SOURCE ? i : then.kids.length - 1 - i];
                int what = kid.kind == THEN ? rootOf(kid, side, depth + 1) : atomOf(kid, side, TextSet.START);
                push(what, 1, false, base);
            }
            int word = gather(base);
            boolean stays = then.time == time;
            then.shownBy = side == SOURCE ? word + 1 : stays ? then.shownBy : 0;
            then.madeBy = side == VIEW ? word + 1 : stays ? then.madeBy : 0;
            then.time = failed ? 0 : time;
            return word;
        }

        /** A lens at a position; the empty word (0) if all symbols that may come behind it stay as they are. */
        private int atomOf(Lens lens, int side, int at) {
            TextSet set = side == SOURCE ? lens.source : lens.view;
            int state = stateLike(set, at);
            long reached = state < set.count ? set.behind[state] : set.first;
            long open = reached;
            for (int i = 0; i < MOST_POSITIONS && open != 0; i++) {
                int p = Long.bitCount((open & -open) - 1);
                open &= open - 1;
                open |= set.behind[p] & ~reached;
                reached |= set.behind[p];
            }
            if ((reached & ~lens.kept) == 0) {
                return 0;
            }
            int found = 0;
            while (found < atoms && (lenses[found] != lens || states[found] != 2 * state + side)) {
                found++;
            }
            if (found == MOST_ATOMS) {
                failed = true;
                return 0;
            }
            if (found == atoms) {
                lenses[found] = lens;
                states[found] = 2 * state + side;
                atoms++;
            }
            return -1 - found;
        }

        /** The first one of all states behind which the same may come. */
        private static int stateLike(TextSet set, int state) {
            long behind = state >= 0 && state < set.count ? set.behind[state] : set.first;
            int found = behind == set.first ? TextSet.START : 0;
            while (found < set.count && set.behind[found] != behind) {
                found++;
            }
            return found;
        }

        /** An atom, or a word, so often on the stack; a word as its elements if it is flat or has but one. */
        private void push(int what, long often, boolean flat, int base) {
            boolean whole = what < 0 || (rest[what] != 0 && (often > 1 || !flat));
            int word = what;
            // The rest of a word is an earlier node.
            for (int i = 0; i < MOST_NODES && word != 0 && !failed; i++) {
                int next = whole ? what : first[first[word]];
                long many = whole ? often : times[first[word]] * often;
                if (stacked > base && stack[stacked - 1] == next) {
                    stackTimes[stacked - 1] += many;
                } else if (stacked < MOST_STACKED) {
                    stack[stacked] = next;
                    stackTimes[stacked] = many;
                    stacked++;
                } else {
                    failed = true;
                }
                word = whole ? 0 : rest[word];
            }
        }

        /** The word of what stands on the stack from a place on, which goes from there. */
        private int gather(int base) {
            int word = 0;
            while (stacked > base && !failed) {
                stacked--;
                int node = stack[stacked];
                for (int phase = 0; phase < 2 && !failed; phase++) {
                    long often = phase == 0 ? stackTimes[stacked] : 0;
                    int behind = phase == 0 ? NONE : word;
                    long mixed = ((node * 0x9E3779B97F4A7C15L) ^ often) * 0xC2B2AE3D27D4EB4FL + behind;
                    mixed = (mixed ^ (mixed >>> 29)) * 0x9E3779B97F4A7C15L;
                    int at = (int) (mixed >>> 40) & (places.length - 1);
                    for (int i = 0; i < places.length && places[at] != 0 && (first[places[at]] != node
                        || times[places[at]] != often || rest[places[at]] != behind); i++) {
                        at = (at + 1) & (places.length - 1);
                    }
                    if (places[at] == 0 && nodes < MOST_NODES) {
                        first[nodes] = node;
                        times[nodes] = often;
                        rest[nodes] = behind;
                        places[at] = nodes;
                        nodes++;
                    }
                    failed = places[at] == 0;
                    node = places[at];
                }
                word = node;
            }
            stacked = base;
            return failed ? 0 : word;
        }

        private int throughWord(int begin, int x, int depth) {
            int base = stacked;
            int y = x;
            int word = begin;
            for (int i = 0; i < MOST_NODES && word != 0 && !failed; i++) {
                int section = through(first[word], y, depth + 1);
                y = symbol;
                push(section, 1, true, base);
                word = rest[word];
            }
            symbol = y;
            return gather(base);
        }

        /** What is to be done behind a symbol that goes through an element; 'symbol' is what comes out. */
        private int through(int element, int x, int depth) {
            failed |= depth > MOST_DEEP;
            if (failed) {
                return 0;
            }
            int known = answerPlace(SIGNS * element + x);
            if (asked[known] != 0) {
                symbol = answers[known] % SIGNS;
                return answers[known] / SIGNS;
            }
            int base = stacked;
            if (first[element] < 0 && times[element] == 1) {
                int atom = -1 - first[element];
                push(atomOf(lenses[atom], states[atom] & 1, stepOf(atom, x)), 1, false, base);
            } else {
                power(first[element], times[element], x, depth);
            }
            int word = gather(base);
            int place = answerPlace(SIGNS * element + x);
            failed |= answered >= MOST_NODES;
            if (!failed && asked[place] == 0) {
                asked[place] = SIGNS * element + x;
                answers[place] = SIGNS * word + symbol;
                answered++;
            }
            return word;
        }

        /** Where the answer to a question stands, or could stand; no question is 0, as no element is. */
        private int answerPlace(int question) {
            int at = (int) (question * 0x9E3779B97F4A7C15L >>> 40) & (asked.length - 1);
            for (int i = 0; i < asked.length && asked[at] != 0 && asked[at] != question; i++) {
                at = (at + 1) & (asked.length - 1);
            }
            return at;
        }

        /** The position to which an atom comes by a symbol; 'symbol' is what comes out. */
        private int stepOf(int atom, int x) {
            int side = states[atom] & 1;
            int state = states[atom] >> 1;
            TextSet set = side == SOURCE ? lenses[atom].source : lenses[atom].view;
            TextSet other = side == SOURCE ? lenses[atom].view : lenses[atom].source;
            for (long open = state < set.count ? set.behind[state] : set.first; open != 0; open &= open - 1) {
                int p = Long.bitCount((open & -open) - 1);
                if (((set.allowed[p] >>> x) & 1L) != 0) {
                    boolean stays = ((lenses[atom].kept >>> p) & 1L) != 0;
                    symbol = stays ? x : Long.bitCount((other.allowed[p] & -other.allowed[p]) - 1);
                    return p;
                }
            }
            failed = true;
            return TextSet.START;
        }

        /** The same over and over: after some times the symbol is the first one again, and all goes on in rounds. */
        private void power(int what, long often, int x, int depth) {
            int base = stacked;
            int y = x;
            int section = 0;
            int done = 0;
            long left = often;
            push(what, 1, false, base);
            int one = what < 0 ? first[gather(base)] : NONE;
            stacked = base;
            while (done < left && done < SYMBOLS && !failed) {
                section = what < 0 ? through(one, y, depth + 1) : throughWord(what, y, depth + 1);
                y = symbol;
                push(section, 1, true, base);
                done++;
                if (y == x && left == often && done < often) {
                    int round = gather(base);
                    push(round, often / done, true, base);
                    left = often % done;
                    done = 0;
                }
            }
            failed |= done < left;
            if (often == 1) {
                stacked = base;
                push(section, 1, false, base);
            }
            symbol = y;
        }
    }

    /**
     * What "then" answered before: lenses that name one another over and over ask the same again and again.
     * It has room for so many answers; where it is full, a later one takes the place of an earlier one.
     */
    private static final class Recall {
        private static final int IN_WORD = 10;
        private static final int WORDS = LONGEST / IN_WORD;
        private static final int ASKED = 2 + 2 * WORDS;
        private static final int SPAN = ASKED + WORDS;
        private static final int WAYS = 4;
        private static final int FEWEST = 64;
        private static final int MOST = 16384;

        /** The answer that was found. */
        final byte[] told = new byte[LONGEST];
        int length;
        private final long[] asked = new long[ASKED];
        private long[] rows = new long[0];
        private int buckets;
        private int turn;
        private int numbers;

        /** What a lens is asked: of a source alone (no view), of a view alone (no source), or of both. */
        void ask(Lens lens, byte[] store, int fromView, int toView, int fromSource, int toSource) {
            if (lens.number == 0) {
                numbers++;
                lens.number = numbers;
            }
            asked[1] = 4L * lens.number + (fromView == NONE ? 0 : 1) + (fromSource == NONE ? 0 : 2);
            pack(store, fromView, toView, asked, 2);
            pack(store, fromSource, toSource, asked, 2 + WORDS);
            long mixed = 0;
            for (int i = 1; i < ASKED; i++) {
                mixed = (mixed ^ asked[i]) * 0x9E3779B97F4A7C15L;
                mixed ^= mixed >>> 32;
            }
            // An empty row begins with 0.
            asked[0] = mixed == 0 ? 1 : mixed;
        }

        /** Ten symbols in each word, each of them above 0. */
        private static void pack(byte[] store, int from, int to, long[] into, int at) {
            for (int i = 0; i < WORDS; i++) {
                into[at + i] = 0;
            }
            int many = from == NONE ? 0 : Math.min(to - from, LONGEST);
            for (int i = 0; i < many; i++) {
                into[at + i / IN_WORD] |= (store[from + i] + 1L) << (6 * (i % IN_WORD));
            }
        }

        /** Whether what was asked is known: then the answer is told (its length NONE if there is no outcome). */
        boolean isKnown() {
            int row = rowOf(asked, 0);
            if (row == NONE || rows[row] == 0) {
                return false;
            }
            length = rows[row + ASKED] < 0 ? NONE : 0;
            for (int i = 0; i < LONGEST && length == i; i++) {
                long rank = (rows[row + ASKED + i / IN_WORD] >>> (6 * (i % IN_WORD))) & 63L;
                if (rank > 0) {
                    told[i] = (byte) (rank - 1);
                    length++;
                }
            }
            return true;
        }

        /** Four times as many rows as there were, if there is none for what was asked. */
        void makeRoom() {
            if (buckets >= MOST || rowOf(asked, 0) != NONE) {
                return;
            }
            long[] old = rows;
            buckets = buckets == 0 ? FEWEST : 4 * buckets;
            rows = new long[buckets * WAYS * SPAN];
            for (int i = 0; i + SPAN <= old.length; i += SPAN) {
                int row = old[i] == 0 ? NONE : rowOf(old, i);
                if (row != NONE) {
                    System.arraycopy(old, i, rows, row, SPAN);
                }
            }
        }

        /** Keeps the answer to what was asked, that stands from a place on ('to' is NONE if there is no outcome). */
        void keep(byte[] store, int from, int to) {
            int row = rowOf(asked, 0);
            if (row == NONE) {
                turn = (turn + 1) % WAYS;
                row = ((int) (asked[0] & Math.max(0, buckets - 1)) * WAYS + turn) * SPAN;
            }
            if (row + SPAN <= rows.length) {
                System.arraycopy(asked, 0, rows, row, ASKED);
                pack(store, to == NONE ? NONE : from, to, rows, row + ASKED);
                rows[row + ASKED] = to == NONE ? NONE : rows[row + ASKED];
            }
        }

        /** Where in its bucket the row with a question stands, or an empty one; NONE if there is neither. */
        private int rowOf(long[] from, int at) {
            int begin = (int) (from[at] & Math.max(0, buckets - 1)) * WAYS * SPAN;
            for (int row = begin; row < begin + WAYS * SPAN && row + SPAN <= rows.length; row += SPAN) {
                boolean same = true;
                for (int i = 0; i < ASKED && same; i++) {
                    same = rows[row + i] == from[at + i];
                }
                if (same || rows[row] == 0) {
                    return row;
                }
            }
            return NONE;
        }
    }

    /** Reads the tape, and keeps the lenses that it told. */
    private static final class Reader {
        final Lens[] lenses = new Lens[MOST_LENSES];
        int told;
        int length;
        int fault;
        int faultPlace = NONE;
        int shownBy = NONE;
        private final int[] tape = new int[TAPE_BYTES];
        private final long[] names = new long[MOST_LENSES];
        private final byte[] quoted = new byte[MOST_QUOTED];
        private final Lens[] links = new Lens[MOST_LINKS];
        private final Walker walker;
        private int quotedLength;
        private int place;
        private int opened;

        Reader(Walker walker) {
            this.walker = walker;
        }

        void take(int four) {
            for (int shift = 24; shift >= 0 && length < TAPE_BYTES; shift -= 8) {
                tape[length] = (four >>> shift) & 255;
                length++;
            }
        }

        boolean isText() {
            boolean good = length <= LONGEST;
            for (int i = 0; i < length && good; i++) {
                good = rankOf(tape[i]) != NONE;
            }
            return good;
        }

        void spellInto(Text target) {
            target.length = Math.min(length, LONGEST);
            for (int i = 0; i < target.length; i++) {
                target.ranks[i] = (byte) rankOf(tape[i]);
            }
        }

        int readDefinition() {
            place = 0;
            opened = 0;
            fault = 0;
            faultPlace = NONE;
            shownBy = NONE;
            long name = ownName();
            if (name == 0 || !takeSign('=')) {
                return NONE;
            }
            Lens made = branches();
            int many = 0;
            while (many < MOST_LINKS - 1 && made != null && isWord("then")) {
                int where = place;
                place += 4;
                links[many] = made;
                many++;
                made = behind(made, branches(), where);
            }
            if (sign() != NONE) {
                refuse(CANT_STAND, place);
            }
            if (made == null || fault != 0 || told >= MOST_LENSES) {
                return NONE;
            }
            if (many > 0) {
                links[many] = made;
                made = Lens.then(links, many + 1);
                made.simpler = Lens.joined(links, many + 1, walker, 0);
                made.weight = made.simpler.weight;
            }
            lenses[told] = made;
            names[told] = name;
            told++;
            return told - 1;
        }

        private void refuse(int number, int where) {
            if (fault == 0) {
                fault = number;
                faultPlace = where;
            }
        }

        /** Refuses with the least of the symbols that show the fault; without one the empty text shows it. */
        private void refuseShown(int number, int where, long signs) {
            if (fault == 0) {
                refuse(number, where);
                shownBy = signs == 0 ? 0 : byteOf(lowest(signs));
            }
        }

        /** The byte at which the next token begins, NONE at the end. */
        private int sign() {
            while (place < length && (tape[place] == ' ' || tape[place] == 10)) {
                place++;
            }
            return place < length ? tape[place] : NONE;
        }

        private boolean takeSign(int wanted) {
            if (sign() != wanted) {
                refuse(CANT_STAND, place);
                return false;
            }
            place++;
            return true;
        }

        private boolean takeOpening() {
            if (sign() == '(' && opened >= MOST_OPENED) {
                refuse(TOO_MANY, place);
                return false;
            }
            opened++;
            return takeSign('(');
        }

        private boolean takeClosing() {
            opened--;
            return takeSign(')');
        }

        private int letters() {
            sign();
            int many = 0;
            while (place + many < length && tape[place + many] >= 'a' && tape[place + many] <= 'z') {
                many++;
            }
            return many;
        }

        private boolean isWord(String word) {
            boolean like = letters() == word.length();
            for (int i = 0; i < word.length() && like; i++) {
                like = tape[place + i] == word.charAt(i);
            }
            return like;
        }

        private boolean takeWord(String word) {
            if (!isWord(word)) {
                return false;
            }
            place += word.length();
            return true;
        }

        private boolean isOwnWord() {
            return isWord("then") || isWord("copy") || isWord("key") || isWord("del") || isWord("ins")
                || isWord("swap") || isWord("dict");
        }

        /** A name as a number above 0; 0, with a fault, if none stands here. */
        private long takeName() {
            int many = letters();
            if (many == 0 || many > MOST_LETTERS || isOwnWord()) {
                refuse(CANT_STAND, place);
                return 0;
            }
            long name = 0;
            for (int i = 0; i < many; i++) {
                name = name * 27 + tape[place + i] - 'a' + 1;
            }
            place += many;
            return name;
        }

        private Lens named(long name) {
            for (int i = 0; i < told; i++) {
                if (names[i] == name) {
                    return lenses[i];
                }
            }
            return null;
        }

        private long ownName() {
            sign();
            int where = place;
            long name = takeName();
            if (name == 0) {
                return 0;
            }
            if (named(name) != null) {
                refuse(WRONG_NAME, where);
                return 0;
            }
            if (told >= MOST_LENSES) {
                refuse(TOO_MANY, where);
                return 0;
            }
            return name;
        }

        private Lens branches() {
            Lens left = row();
            for (int i = 0; i < TAPE_BYTES && left != null && sign() == '|'; i++) {
                int where = place;
                place++;
                left = branched(left, row(), where);
            }
            return left;
        }

        private Lens row() {
            Lens left = part();
            for (int i = 0; i < TAPE_BYTES && left != null && sign() == '.'; i++) {
                int where = place;
                place++;
                left = rowed(left, part(), where, false);
            }
            return left;
        }

        private Lens part() {
            Lens body = basic();
            if (body == null || sign() != '*') {
                return body;
            }
            place++;
            return repeated(STAR, body, place - 1);
        }

        /** A dict has the empty text, so that a dict of a dict is refused: of many the last two are asked. */
        private Lens basic() {
            int inner = NONE;
            int outer = NONE;
            for (int i = 0; i < TAPE_BYTES && isWord("dict"); i++) {
                outer = inner;
                inner = place;
                place += 4;
            }
            Lens body = plain();
            if (inner != NONE) {
                body = repeated(DICT, body, inner);
            }
            return outer != NONE ? repeated(DICT, body, outer) : body;
        }

        private Lens plain() {
            if (sign() == '(') {
                Lens within = takeOpening() ? branches() : null;
                return within != null && takeClosing() ? within : null;
            }
            if (takeWord("copy")) {
                return whole(COPY);
            }
            if (takeWord("key")) {
                return whole(KEY);
            }
            if (takeWord("del")) {
                return deletion();
            }
            if (takeWord("ins")) {
                return insertion();
            }
            int where = place;
            if (takeWord("swap")) {
                return swapped(where);
            }
            long name = takeName();
            Lens found = named(name);
            if (found == null) {
                refuse(WRONG_NAME, where);
            }
            return found;
        }

        private Lens whole(int kind) {
            TextSet unit = unit();
            return unit == null ? null : Lens.leaf(kind, unit, unit);
        }

        private Lens deletion() {
            TextSet unit = unit();
            if (unit == null) {
                return null;
            }
            sign();
            int where = place;
            if (!takeQuoted()) {
                return null;
            }
            if (unit.runEnd(quoted, 0, quotedLength) != quotedLength) {
                refuse(NOT_OF_UNIT, where);
                return null;
            }
            Lens made = Lens.leaf(DEL, unit, TextSet.ofQuoted(quoted, 0));
            made.quoted = Arrays.copyOf(quoted, quotedLength);
            return made;
        }

        private Lens insertion() {
            if (!takeQuoted()) {
                return null;
            }
            Lens made = Lens.leaf(INS, TextSet.ofQuoted(quoted, 0), TextSet.ofQuoted(quoted, quotedLength));
            made.quoted = Arrays.copyOf(quoted, quotedLength);
            return made;
        }

        private Lens swapped(int where) {
            Lens left = takeOpening() ? branches() : null;
            Lens right = left != null && takeSign(',') ? branches() : null;
            return right != null && takeClosing() ? rowed(left, right, where, true) : null;
        }

        private Lens rowed(Lens left, Lens right, int where, boolean swapped) {
            if (left == null || right == null) {
                return null;
            }
            if (left.source.count + right.source.count > MOST_POSITIONS
                || left.view.count + right.view.count > MOST_POSITIONS) {
                refuse(TOO_MANY, where);
                return null;
            }
            long shown = left.source.runsInto(right.source);
            if (shown != 0) {
                refuseShown(SOURCES_RUN, where, shown);
                return null;
            }
            shown = swapped ? right.view.runsInto(left.view) : left.view.runsInto(right.view);
            if (shown != 0) {
                refuseShown(VIEWS_RUN, where, shown);
                return null;
            }
            return Lens.row(left, right, swapped);
        }

        private Lens branched(Lens left, Lens right, int where) {
            if (left == null || right == null) {
                return null;
            }
            long shown = left.view.meets(right.view);
            boolean viewsMeet = shown != 0 || (left.view.hasEmpty && right.view.hasEmpty);
            boolean same = viewsMeet && walker.relation(left.view, right.view) == 0;
            if (left.source.count + right.source.count > MOST_POSITIONS
                || (!same && left.view.count + right.view.count > MOST_POSITIONS)) {
                refuse(TOO_MANY, where);
                return null;
            }
            long shownBySources = left.source.meets(right.source);
            if (shownBySources != 0 || (left.source.hasEmpty && right.source.hasEmpty)) {
                refuseShown(SOURCES_MEET, where, shownBySources);
                return null;
            }
            if (viewsMeet && !same) {
                refuseShown(VIEWS_MEET, where, shown);
                return null;
            }
            return Lens.branches(left, right, same);
        }

        private Lens repeated(int kind, Lens body, int where) {
            if (body == null) {
                return null;
            }
            long shown = body.source.runsInto(body.source);
            if (shown != 0 || body.source.hasEmpty) {
                refuseShown(SOURCES_REPEAT, where, shown);
                return null;
            }
            shown = body.view.runsInto(body.view);
            if (shown != 0 || body.view.hasEmpty) {
                refuseShown(VIEWS_REPEAT, where, shown);
                return null;
            }
            if (kind == DICT && !body.hasKey) {
                refuse(WITHOUT_KEY, where);
                return null;
            }
            return Lens.repeated(kind, body);
        }

        /** What stands behind "then", if it may. */
        private Lens behind(Lens left, Lens right, int where) {
            if (right != null && walker.relation(left.view, right.source) != 0) {
                refuse(NOT_SAME, where);
                return null;
            }
            return right;
        }

        private boolean takeQuoted() {
            if (!takeSign('"')) {
                return false;
            }
            quotedLength = 0;
            while (place < length && tape[place] != '"') {
                int rank = rankOf(tape[place]);
                if (rank == NONE || quotedLength >= MOST_QUOTED) {
                    refuse(CANT_STAND, place);
                    return false;
                }
                quoted[quotedLength] = (byte) rank;
                quotedLength++;
                place++;
            }
            return takeSign('"');
        }

        private TextSet unit() {
            TextSet atom = atom();
            int sign = atom == null ? NONE : sign();
            if (sign == '?') {
                place++;
                return atom.orEmpty();
            }
            if (sign != '*' && sign != '+') {
                return atom;
            }
            long shown = atom.runsInto(atom);
            if (shown != 0) {
                refuseShown(WITHIN_UNIT, place, shown);
                return null;
            }
            place++;
            return atom.repeated(sign == '*');
        }

        private TextSet atom() {
            switch (sign()) {
                case '"':
                    return takeQuoted() ? TextSet.ofQuoted(quoted, quotedLength) : null;
                case '[':
                    return ranges();
                case '(':
                    return enclosed();
                default:
                    refuse(CANT_STAND, place);
                    return null;
            }
        }

        private TextSet enclosed() {
            TextSet within = takeOpening() ? choice() : null;
            return within != null && takeClosing() ? within : null;
        }

        private TextSet choice() {
            TextSet left = chain();
            for (int i = 0; i < TAPE_BYTES && left != null && sign() == '|'; i++) {
                int where = place;
                place++;
                left = chosen(left, chain(), where);
            }
            return left;
        }

        private TextSet chain() {
            TextSet left = unit();
            for (int i = 0; i < TAPE_BYTES && left != null && beginsUnit(sign()); i++) {
                int where = place;
                left = chained(left, unit(), where);
            }
            return left;
        }

        private static boolean beginsUnit(int sign) {
            return sign == '"' || sign == '[' || sign == '(';
        }

        private TextSet chosen(TextSet left, TextSet right, int where) {
            if (right == null) {
                return null;
            }
            if (left.count + right.count > MOST_POSITIONS) {
                refuse(TOO_MANY, where);
                return null;
            }
            long shown = left.meets(right);
            if (shown != 0 || (left.hasEmpty && right.hasEmpty)) {
                refuseShown(WITHIN_UNIT, where, shown);
                return null;
            }
            return TextSet.either(left, right);
        }

        private TextSet chained(TextSet left, TextSet right, int where) {
            if (right == null) {
                return null;
            }
            if (left.count + right.count > MOST_POSITIONS) {
                refuse(TOO_MANY, where);
                return null;
            }
            long shown = left.runsInto(right);
            if (shown != 0) {
                refuseShown(WITHIN_UNIT, where, shown);
                return null;
            }
            return TextSet.chain(left, right);
        }

        private TextSet ranges() {
            long signs = 0;
            place++;
            for (int i = 0; i < TAPE_BYTES && place < length && tape[place] != ']'; i++) {
                int low = takeBound(0);
                int high = low;
                if (low != NONE && place < length && tape[place] == '-') {
                    place++;
                    high = takeBound(low);
                }
                if (high == NONE) {
                    return null;
                }
                signs |= (2L << high) - (1L << low);
            }
            if (place >= length || signs == 0) {
                refuse(CANT_STAND, place);
                return null;
            }
            place++;
            return TextSet.ofSigns(signs);
        }

        /** A symbol of a range that is not below another one; NONE, with a fault, if none stands here. */
        private int takeBound(int least) {
            int rank = place < length && tape[place] != '-' ? rankOf(tape[place]) : NONE;
            if (rank < least) {
                refuse(CANT_STAND, place);
                return NONE;
            }
            place++;
            return rank;
        }
    }

    /** The parts of a repetition in a range of a store, each with its key and the part that it is aligned with. */
    private static final class Parts {
        final int[] from = new int[LONGEST];
        final int[] to = new int[LONGEST];
        final int[] keyFrom = new int[LONGEST];
        final int[] keyTo = new int[LONGEST];
        final int[] partner = new int[LONGEST];
        int count;

        boolean split(TextSet ofPart, byte[] store, int begin, int finish) {
            int at = begin;
            count = 0;
            while (at < finish && count < LONGEST) {
                int next = ofPart.runEnd(store, at, finish);
                if (next <= at) {
                    return false;
                }
                from[count] = at;
                to[count] = next;
                partner[count] = ANEW;
                count++;
                at = next;
            }
            return at == finish;
        }

        boolean hasKey(int i, byte[] store, int begin, int finish) {
            boolean like = keyTo[i] - keyFrom[i] == finish - begin;
            for (int k = 0; k < finish - begin && like; k++) {
                like = store[keyFrom[i] + k] == store[begin + k];
            }
            return like;
        }
    }

    /**
     * Shows, puts back and makes anew. Texts stand one behind another in a store, an outcome always on top;
     * what is still to be done waits on a stack of its own, as lenses may lie too deep for calls. Only "then"
     * calls itself, and no deeper than there are lenses.
     */
    private static final class Machine {
        private byte[] store = new byte[16 * LONGEST];
        private int top;
        private Lens[] waiting = new Lens[256];
        private int[] ranges = new int[4 * 256];
        private int waits;
        private int[] marks = new int[64];
        private int marked;
        private long steps;

        private final Words words = new Words();
        private final Recall recall = new Recall();
        private final int[] viewFrom = new int[MOST_KIDS];
        private final int[] viewTo = new int[MOST_KIDS];
        private final int[] sourceFrom = new int[MOST_KIDS];
        private final int[] sourceTo = new int[MOST_KIDS];
        private final Parts viewParts = new Parts();
        private final Parts sourceParts = new Parts();

        boolean shows(Lens lens, Text source, Text into) {
            if (!lens.source.has(source)) {
                return false;
            }
            clear();
            append(source.ranks, 0, source.length);
            int begin = top;
            if (!show(lens, 0, begin, 0)) {
                return false;
            }
            into.fill(store, begin, top - begin);
            return true;
        }

        /** Without a source (null) the view is made anew. */
        boolean putsBack(Lens lens, Text view, Text source, Text into) {
            if (!lens.view.has(view) || (source != null && !lens.source.has(source))) {
                return false;
            }
            clear();
            append(view.ranks, 0, view.length);
            int from = source == null ? NONE : top;
            if (source != null) {
                append(source.ranks, 0, source.length);
            }
            int begin = top;
            if (!back(lens, 0, view.length, from, begin, 0)) {
                return false;
            }
            into.fill(store, begin, top - begin);
            return true;
        }

        int countParts(Lens repeated, Text view) {
            Lens kid = repeated.firstKid();
            if (kid == null || !repeated.view.has(view)) {
                return NONE;
            }
            return viewParts.split(kid.view, view.ranks, 0, view.length) ? viewParts.count : NONE;
        }

        int partInto(Lens repeated, Text view, Text source, int i) {
            Lens kid = repeated.firstKid();
            int many = countParts(repeated, view);
            if (kid == null || i < 0 || i >= many || !repeated.source.has(source)) {
                return NONE;
            }
            clear();
            append(view.ranks, 0, view.length);
            append(source.ranks, 0, source.length);
            if (repeated.kind == STAR) {
                boolean good = sourceParts.split(kid.source, store, view.length, top);
                return good && i < sourceParts.count ? i : ANEW;
            }
            boolean good = askKeys(repeated, view.length, top, 0) && alignParts(repeated, 0, view.length);
            return good ? viewParts.partner[i] : NONE;
        }

        boolean partKey(Lens repeated, Text view, int i, Text into) {
            Lens kid = repeated.firstKid();
            int many = countParts(repeated, view);
            if (kid == null || i < 0 || i >= many) {
                return false;
            }
            clear();
            append(view.ranks, 0, view.length);
            int begin = top;
            if (!gatherKey(kid, viewParts.from[i], viewParts.to[i])) {
                return false;
            }
            into.fill(store, begin, top - begin);
            return true;
        }

        private void clear() {
            top = 0;
            waits = 0;
            marked = 0;
            steps = 0;
        }

        private void append(byte[] from, int at, int to) {
            int many = to - at;
            if (many <= 0 || at < 0 || to > from.length) {
                return;
            }
            makeRoom(many);
            System.arraycopy(from, at, store, top, many);
            top += many;
        }

        private void makeRoom(int many) {
            if (top + many > store.length) {
                store = Arrays.copyOf(store, 2 * (top + many));
            }
        }

        /** What stands on top from a place on comes down to a lower place. */
        private void settle(int low, int from) {
            int many = top - from;
            if (low >= 0 && low <= from && many >= 0) {
                System.arraycopy(store, from, store, low, many);
                top = low + many;
            }
        }

        private void markTop() {
            if (marked >= marks.length) {
                marks = Arrays.copyOf(marks, 2 * marks.length);
            }
            marks[marked] = top;
            marked++;
        }

        private void await(Lens lens, int fromView, int toView, int fromSource, int toSource) {
            if (waits >= waiting.length) {
                Lens[] more = new Lens[2 * waiting.length];
                System.arraycopy(waiting, 0, more, 0, waiting.length);
                waiting = more;
                ranges = Arrays.copyOf(ranges, 4 * more.length);
            }
            waiting[waits] = lens;
            ranges[4 * waits] = fromView;
            ranges[4 * waits + 1] = toView;
            ranges[4 * waits + 2] = fromSource;
            ranges[4 * waits + 3] = toSource;
            waits++;
        }

        /** What a lens shows of a range of the store comes on top; false if there is no outcome. */
        private boolean show(Lens lens, int from, int to, int depth) {
            int begin = top;
            int bottom = waits;
            boolean good = depth <= MOST_LENSES;
            await(lens, NONE, NONE, from, to);
            for (; good && waits > bottom && steps < MOST_STEPS; steps++) {
                waits--;
                Lens now = waiting[waits];
                int c = ranges[4 * waits + 2];
                int d = ranges[4 * waits + 3];
                switch (now.kind) {
                    case COPY:
                    case KEY:
                        append(store, c, d);
                        break;
                    case INS:
                        append(now.quoted, 0, now.quoted.length);
                        break;
                    case ROW:
                        good = splitRow(now, SOURCE, c, d) && awaitAsSeen(now);
                        break;
                    case BRANCHES:
                        good = showBranch(now, c, d);
                        break;
                    case STAR:
                    case DICT:
                        good = showPart(now, c, d);
                        break;
                    case THEN:
                        good = answerThen(now, NONE, NONE, c, d, depth);
                        break;
                    default:
                        break;
                }
                good = good && top - begin <= LONGEST;
            }
            good = good && waits == bottom;
            waits = bottom;
            return good;
        }

        /** Which range each kid of a row has on one side. */
        private boolean splitRow(Lens row, int side, int begin, int finish) {
            int[] from = side == SOURCE ? sourceFrom : viewFrom;
            int[] to = side == SOURCE ? sourceTo : viewTo;
            int at = begin;
            for (int i = 0; i < row.kids.length && i < row.order.length; i++) {
                int k = side == SOURCE ? i : row.order[i];
                if (k < 0 || k >= row.kids.length || k >= MOST_KIDS) {
                    return false;
                }
                TextSet ofKid = side == SOURCE ? row.kids[k].source : row.kids[k].view;
                from[k] = at;
                at = ofKid.runEnd(store, at, finish);
                to[k] = at;
                if (at == NONE) {
                    return false;
                }
            }
            return at == finish;
        }

        /** The kids of a row wait in the order in which the view has them. */
        private boolean awaitAsSeen(Lens row) {
            for (int i = row.order.length - 1; i >= 0; i--) {
                int k = row.order[i];
                if (k < 0 || k >= row.kids.length || k >= MOST_KIDS) {
                    return false;
                }
                await(row.kids[k], viewFrom[k], viewTo[k], sourceFrom[k], sourceTo[k]);
            }
            return true;
        }

        private boolean showBranch(Lens branches, int from, int to) {
            for (int k = 0; k < branches.kids.length; k++) {
                Lens kid = branches.kids[k];
                if (kid.source.runEnd(store, from, to) == to) {
                    await(kid, NONE, NONE, from, to);
                    return true;
                }
            }
            return false;
        }

        private boolean showPart(Lens repeated, int from, int to) {
            Lens kid = repeated.firstKid();
            if (kid == null || from >= to) {
                return kid != null;
            }
            int end = kid.source.runEnd(store, from, to);
            if (end <= from) {
                return false;
            }
            await(repeated, NONE, NONE, end, to);
            await(kid, NONE, NONE, from, end);
            return true;
        }

        /** Shows (without a view), makes anew (without a source) or puts back by lenses behind one another. */
        private boolean answerThen(Lens then, int fromView, int toView, int fromSource, int toSource, int depth) {
            boolean shows = fromView == NONE;
            int from = !shows && then.isOneToOne(0) ? NONE : fromSource;
            if (then.simpler != null) {
                await(then.simpler, fromView, toView, fromSource, toSource);
                return true;
            }
            if (then.weight < HEAVY) {
                return shows ? showLinks(then, from, toSource, depth)
                    : backLinks(then, fromView, toView, from, toSource, depth);
            }
            if (then.stepwise && words.run(then, shows ? SOURCE : VIEW, store, shows ? from : fromView,
                shows ? toSource : toView)) {
                append(words.told, 0, shows ? toSource - from : toView - fromView);
                return true;
            }
            int begin = top;
            recall.ask(then, store, fromView, toView, from, toSource);
            if (recall.isKnown()) {
                append(recall.told, 0, recall.length);
                return recall.length != NONE;
            }
            boolean good = answerLinks(then, fromView, toView, from, toSource, depth);
            recall.ask(then, store, fromView, toView, from, toSource);
            recall.makeRoom();
            recall.keep(store, begin, good ? top : NONE);
            return good;
        }

        private boolean answerLinks(Lens then, int fromView, int toView, int fromSource, int toSource, int depth) {
            boolean shows = fromView == NONE;
            boolean asks = !shows && fromSource != NONE && then.linksOneToOne;
            if (asks && !showsAhead(then, fromSource, toSource, depth)) {
                return false;
            }
            boolean anew = asks || fromSource == NONE;
            if (then.power > 1 && (shows || anew)) {
                return repeat(then.base(), then.power, shows, shows ? fromSource : fromView, shows ? toSource : toView,
                    depth);
            }
            return shows ? showLinks(then, fromSource, toSource, depth)
                : backLinks(then, fromView, toView, anew ? NONE : fromSource, toSource, depth);
        }

        /** Shows, or makes anew, by one lens over and over: when a text comes again, all goes on in rounds. */
        private boolean repeat(Lens lens, long times, boolean shows, int from, int to, int depth) {
            int begin = top;
            int low = begin + LONGEST;
            int old = to - from;
            if (old < 0 || old > LONGEST) {
                return false;
            }
            // The text that is waited for stands ahead of the latest one, in room for the longest.
            makeRoom(2 * LONGEST);
            append(store, from, to);
            top = low;
            append(store, from, to);
            long since = 0;
            long span = 1;
            for (long left = times; left > 0; left--) {
                int start = top;
                if (!(shows ? show(lens, low, start, depth + 1) : back(lens, low, start, NONE, NONE, depth + 1))) {
                    return false;
                }
                settle(low, start);
                since++;
                boolean again = since > 0 && isLike(begin, old, low, top - low);
                left = again ? (left - 1) % since + 1 : left;
                if (again || since == span) {
                    System.arraycopy(store, low, store, begin, top - low);
                    old = top - low;
                    span *= 2;
                    since = 0;
                }
            }
            settle(begin, low);
            return true;
        }

        private boolean isLike(int one, int many, int other, int others) {
            boolean like = many == others;
            for (int i = 0; i < many && like; i++) {
                like = store[one + i] == store[other + i];
            }
            return like;
        }

        /** Whether all lenses but the last one show something of a source: a text in the midst may be too long. */
        private boolean showsAhead(Lens then, int from, int to, int depth) {
            int begin = top;
            int a = from;
            int b = to;
            Lens rest = then;
            for (int level = 0; level <= MOST_LENSES && rest.kind == THEN && rest.kids.length > 0; level++) {
                Lens base = rest.base();
                boolean powers = rest.power > 1;
                for (int k = 0; k < (powers ? 1 : rest.kids.length - 1); k++) {
                    int start = top;
                    if (!(powers ? repeat(base, rest.power - 1, true, a, b, depth) : show(rest.kids[k], a, b, depth + 1))) {
                        return false;
                    }
                    settle(begin, start);
                    a = begin;
                    b = top;
                }
                rest = powers ? base : rest.kids[rest.kids.length - 1];
            }
            top = begin;
            return true;
        }

        private boolean showLinks(Lens then, int from, int to, int depth) {
            int begin = top;
            int a = from;
            int b = to;
            for (int k = 0; k < then.kids.length; k++) {
                int start = top;
                if (!show(then.kids[k], a, b, depth + 1)) {
                    return false;
                }
                settle(begin, start);
                a = begin;
                b = top;
            }
            return true;
        }

        /** A view put back into a source (made anew, where 'fromSource' is NONE) comes on top. */
        private boolean back(Lens lens, int fromView, int toView, int fromSource, int toSource, int depth) {
            int begin = top;
            int bottom = waits;
            boolean good = depth <= MOST_LENSES;
            await(lens, fromView, toView, fromSource, toSource);
            for (; good && waits > bottom && steps < MOST_STEPS; steps++) {
                waits--;
                Lens now = waiting[waits];
                int v = ranges[4 * waits];
                int w = ranges[4 * waits + 1];
                int c = ranges[4 * waits + 2];
                int d = ranges[4 * waits + 3];
                switch (now.kind) {
                    case COPY:
                    case KEY:
                        append(store, v, w);
                        break;
                    case DEL:
                        backDeleted(now, c, d);
                        break;
                    case ROW:
                        good = splitRow(now, VIEW, v, w) && (c == NONE || splitRow(now, SOURCE, c, d))
                            && backRow(now, c == NONE);
                        break;
                    case BRANCHES:
                        good = backBranch(now, v, w, c, d);
                        break;
                    case STAR:
                        good = backPart(now, v, w, c, d);
                        break;
                    case DICT:
                        good = c == NONE ? backPart(now, v, w, c, d)
                            : askKeys(now, c, d, depth) && alignParts(now, v, w) && backAligned(now);
                        break;
                    case THEN:
                        good = answerThen(now, v, w, c, d, depth);
                        break;
                    default:
                        break;
                }
                good = good && top - begin <= LONGEST;
            }
            good = good && waits == bottom;
            waits = bottom;
            return good;
        }

        private void backDeleted(Lens del, int from, int to) {
            if (from == NONE) {
                append(del.quoted, 0, del.quoted.length);
            } else {
                append(store, from, to);
            }
        }

        private boolean backRow(Lens row, boolean anew) {
            if (row.kids.length > MOST_KIDS) {
                return false;
            }
            for (int k = row.kids.length - 1; k >= 0; k--) {
                int from = anew ? NONE : sourceFrom[k];
                int to = anew ? NONE : sourceTo[k];
                await(row.kids[k], viewFrom[k], viewTo[k], from, to);
            }
            return true;
        }

        /** From the last branch on, as "A | B | C" is "A | B" or C: which of the two, and with a source or anew. */
        private boolean backBranch(Lens branches, int fromView, int toView, int fromSource, int toSource) {
            int from = fromSource;
            for (int k = branches.kids.length - 1; k > 0 && k < branches.same.length; k--) {
                Lens kid = branches.kids[k];
                boolean ofSource = from != NONE && kid.source.runEnd(store, from, toSource) == toSource;
                boolean chosen = branches.same[k] ? ofSource : kid.view.runEnd(store, fromView, toView) == toView;
                if (chosen) {
                    await(kid, fromView, toView, ofSource ? from : NONE, toSource);
                    return true;
                }
                from = ofSource ? NONE : from;
            }
            Lens first = branches.firstKid();
            if (first == null) {
                return false;
            }
            await(first, fromView, toView, from, toSource);
            return true;
        }

        private boolean backPart(Lens repeated, int fromView, int toView, int fromSource, int toSource) {
            Lens kid = repeated.firstKid();
            if (kid == null || fromView >= toView) {
                return kid != null;
            }
            boolean anew = fromSource == NONE || fromSource >= toSource;
            int end = kid.view.runEnd(store, fromView, toView);
            int endSource = anew ? NONE : kid.source.runEnd(store, fromSource, toSource);
            if (end <= fromView || (!anew && endSource <= fromSource)) {
                return false;
            }
            await(repeated, end, toView, endSource, toSource);
            await(kid, fromView, end, anew ? NONE : fromSource, endSource);
            return true;
        }

        /** The keys of all parts of a source stay on top of the store until the parts of a view are aligned. */
        private boolean askKeys(Lens dict, int from, int to, int depth) {
            Lens kid = dict.firstKid();
            if (kid == null || !sourceParts.split(kid.source, store, from, to)) {
                return false;
            }
            markTop();
            for (int i = 0; i < sourceParts.count; i++) {
                int start = top;
                if (!show(kid, sourceParts.from[i], sourceParts.to[i], depth)) {
                    return false;
                }
                int shown = top;
                if (!gatherKey(kid, start, shown)) {
                    return false;
                }
                settle(start, shown);
                sourceParts.keyFrom[i] = start;
                sourceParts.keyTo[i] = top;
            }
            return true;
        }

        private boolean alignParts(Lens dict, int from, int to) {
            Lens kid = dict.firstKid();
            if (kid == null || marked <= 0 || !viewParts.split(kid.view, store, from, to)) {
                return false;
            }
            for (int i = 0; i < viewParts.count; i++) {
                int start = top;
                if (!gatherKey(kid, viewParts.from[i], viewParts.to[i])) {
                    return false;
                }
                for (int k = 0; k < sourceParts.count && viewParts.partner[i] == ANEW; k++) {
                    if (sourceParts.partner[k] == ANEW && sourceParts.hasKey(k, store, start, top)) {
                        sourceParts.partner[k] = i;
                        viewParts.partner[i] = k;
                    }
                }
                top = start;
            }
            marked--;
            top = marks[marked];
            return true;
        }

        private boolean backAligned(Lens dict) {
            Lens kid = dict.firstKid();
            if (kid == null) {
                return false;
            }
            for (int i = viewParts.count - 1; i >= 0; i--) {
                int k = viewParts.partner[i];
                boolean anew = k < 0 || k >= sourceParts.count;
                int from = anew ? NONE : sourceParts.from[k];
                int to = anew ? NONE : sourceParts.to[k];
                await(kid, viewParts.from[i], viewParts.to[i], from, to);
            }
            return true;
        }

        private boolean backLinks(Lens then, int fromView, int toView, int fromSource, int toSource, int depth) {
            int begin = top;
            int base = marked;
            boolean anew = fromSource == NONE;
            // What all kids but the last show, one behind another; the marks tell where each begins and ends.
            for (int k = 0; k < then.kids.length && !anew; k++) {
                markTop();
                int a = k == 0 ? fromSource : marks[base + k - 1];
                int b = k == 0 ? toSource : top;
                if (k < then.kids.length - 1 && !show(then.kids[k], a, b, depth + 1)) {
                    return false;
                }
            }
            int low = top;
            int v = fromView;
            int w = toView;
            for (int k = then.kids.length - 1; k >= 0; k--) {
                int start = top;
                boolean ofSource = anew || k == 0 || base + k >= marked;
                int c = ofSource ? fromSource : marks[base + k - 1];
                int d = ofSource ? toSource : marks[base + k];
                if (!back(then.kids[k], v, w, c, d, depth + 1)) {
                    return false;
                }
                settle(low, start);
                v = low;
                w = top;
            }
            marked = base;
            settle(begin, low);
            return true;
        }

        /** The key of a part of a view comes on top. */
        private boolean gatherKey(Lens lens, int from, int to) {
            int bottom = waits;
            boolean good = true;
            await(lens, from, to, NONE, NONE);
            for (; good && waits > bottom && steps < MOST_STEPS; steps++) {
                waits--;
                Lens now = waiting[waits];
                int v = ranges[4 * waits];
                int w = ranges[4 * waits + 1];
                if (!now.hasKey) {
                    continue;
                }
                switch (now.kind) {
                    case KEY:
                        append(store, v, w);
                        break;
                    case ROW:
                        good = splitRow(now, VIEW, v, w) && awaitAsSeen(now);
                        break;
                    case BRANCHES:
                        good = keyBranch(now, v, w);
                        break;
                    case STAR:
                        good = backPart(now, v, w, NONE, NONE);
                        break;
                    case THEN:
                        good = keyThen(now, v, w);
                        break;
                    default:
                        break;
                }
            }
            good = good && waits == bottom;
            waits = bottom;
            return good;
        }

        private boolean keyThen(Lens then, int from, int to) {
            Lens last = then.lastLink();
            if (last != null) {
                await(last, from, to, NONE, NONE);
            }
            return last != null;
        }

        private boolean keyBranch(Lens branches, int from, int to) {
            Lens chosen = branches.firstKid();
            for (int k = 1; k < branches.kids.length && k < branches.same.length; k++) {
                Lens kid = branches.kids[k];
                if (!branches.same[k] && kid.view.runEnd(store, from, to) == to) {
                    chosen = kid;
                }
            }
            if (chosen != null) {
                await(chosen, from, to, NONE, NONE);
            }
            return chosen != null;
        }
    }

    /** Tries the laws of a lens on its least texts. */
    private static final class Trial {
        private final Text[] sources = new Text[MOST_TRIED];
        private final Text[] views = new Text[MOST_TRIED];
        private final Text[] backs = new Text[MOST_TRIED];
        private final boolean[] made = new boolean[MOST_TRIED];
        private final Text outcome = new Text();
        private int sourceCount;
        private int viewCount;

        Trial() {
            for (int i = 0; i < MOST_TRIED; i++) {
                sources[i] = new Text();
                views[i] = new Text();
                backs[i] = new Text();
            }
        }

        void gather(Lens lens, int n, Walker walker) {
            sourceCount = 0;
            viewCount = 0;
            while (sourceCount < n && sourceCount < MOST_TRIED
                && walker.find(lens.source, sourceCount, sources[sourceCount])) {
                sourceCount++;
            }
            while (viewCount < n && viewCount < MOST_TRIED && walker.find(lens.view, viewCount, views[viewCount])) {
                viewCount++;
            }
        }

        int brokenShown(Lens lens, Machine machine) {
            int broken = 0;
            for (int c = 0; c < sourceCount; c++) {
                boolean holds = machine.shows(lens, sources[c], outcome)
                    && machine.putsBack(lens, outcome, sources[c], outcome) && outcome.isLike(sources[c]);
                broken += holds ? 0 : 1;
            }
            return broken;
        }

        int brokenPut(Lens lens, Machine machine) {
            int broken = 0;
            for (int c = 0; c < sourceCount; c++) {
                for (int v = 0; v < viewCount; v++) {
                    boolean holds = machine.putsBack(lens, views[v], sources[c], outcome)
                        && machine.shows(lens, outcome, outcome) && outcome.isLike(views[v]);
                    broken += holds ? 0 : 1;
                }
            }
            return broken;
        }

        int brokenTwice(Lens lens, Machine machine) {
            int broken = 0;
            for (int c = 0; c < sourceCount; c++) {
                for (int v = 0; v < viewCount; v++) {
                    made[v] = machine.putsBack(lens, views[v], sources[c], backs[v]);
                }
                for (int v = 0; v < viewCount; v++) {
                    for (int w = 0; w < viewCount; w++) {
                        boolean holds = made[v] && made[w] && machine.putsBack(lens, views[w], backs[v], outcome)
                            && outcome.isLike(backs[w]);
                        broken += holds ? 0 : 1;
                    }
                }
            }
            return broken;
        }

        int brokenAnew(Lens lens, Machine machine) {
            int broken = 0;
            for (int v = 0; v < viewCount; v++) {
                boolean holds = machine.putsBack(lens, views[v], null, outcome)
                    && machine.shows(lens, outcome, outcome) && outcome.isLike(views[v]);
                broken += holds ? 0 : 1;
            }
            return broken;
        }
    }

    /** What is open: both sides, the edits that can be undone, and how the other side moved. */
    private static final class Desk {
        Lens lens;
        int number = NONE;
        int kept;
        int refused;
        boolean hasMoved;
        int stayed;
        int went;
        int came;
        final Text source = new Text();
        final Text view = new Text();
        final Text spare = new Text();
        private final Text outcome = new Text();
        private final Text[] oldSources = new Text[MOST_KEPT];
        private final Text[] oldViews = new Text[MOST_KEPT];
        private int newest;

        Desk() {
            for (int i = 0; i < MOST_KEPT; i++) {
                oldSources[i] = new Text();
                oldViews[i] = new Text();
            }
        }

        Text textOf(int side) {
            return side == SOURCE ? source : view;
        }

        boolean begin(Lens told, int itsNumber, Text from, Machine machine) {
            if (!machine.shows(told, from, outcome)) {
                return false;
            }
            lens = told;
            number = itsNumber;
            kept = 0;
            refused = 0;
            hasMoved = false;
            source.become(from);
            view.become(outcome);
            return true;
        }

        boolean change(int side, int at, int gone, Text comes, Machine machine) {
            Text mine = textOf(side);
            Text others = textOf(1 - side);
            if (!spare.splice(mine, at, gone, comes)) {
                return false;
            }
            boolean good = side == SOURCE ? machine.shows(lens, spare, outcome)
                : machine.putsBack(lens, spare, source, outcome);
            if (!good) {
                return false;
            }
            keep();
            noteMoved(others, outcome);
            mine.become(spare);
            others.become(outcome);
            return true;
        }

        private void keep() {
            newest = (newest + 1) % MOST_KEPT;
            oldSources[newest].become(source);
            oldViews[newest].become(view);
            kept = Math.min(MOST_KEPT, kept + 1);
        }

        private void noteMoved(Text old, Text now) {
            int shorter = Math.min(old.length, now.length);
            int begin = 0;
            while (begin < shorter && old.ranks[begin] == now.ranks[begin]) {
                begin++;
            }
            int end = 0;
            while (end < shorter - begin && old.ranks[old.length - 1 - end] == now.ranks[now.length - 1 - end]) {
                end++;
            }
            hasMoved = true;
            stayed = begin;
            went = old.length - begin - end;
            came = now.length - begin - end;
        }

        boolean takeBack() {
            if (kept <= 0) {
                return false;
            }
            source.become(oldSources[newest]);
            view.become(oldViews[newest]);
            newest = (newest + MOST_KEPT - 1) % MOST_KEPT;
            kept--;
            hasMoved = false;
            return true;
        }
    }
}

/** Definitions that are due to be taken, or refused with a fault. */
final class Told {
    private static final int NONE = PutBack.NONE;

    private Told() {
    }

    /** A good definition, alone. */
    static void taken(String definition) {
        Calls.due("'" + definition + "'", Calls.define(new PutBack(), definition), 0);
    }

    /** A good definition behind others. */
    static void taken(PutBack x, String definition) {
        Calls.due("'" + definition + "'", Calls.define(x, definition), x.look(0) - 1);
        Calls.due("'" + definition + "' fault", x.fault(0), 0);
        Calls.due("'" + definition + "' place", x.fault(1), NONE);
        Calls.due("'" + definition + "' shown by", x.fault(2), NONE);
    }

    static void refused(String definition, int fault, int place, int shown) {
        refused(new PutBack(), definition, fault, place, shown);
    }

    static void refused(PutBack x, String definition, int fault, int place, int shown) {
        int lenses = x.look(0);
        String call = "'" + definition + "' ";
        Calls.due(call, Calls.define(x, definition), NONE);
        Calls.due(call + "fault", x.fault(0), fault);
        Calls.due(call + "place", x.fault(1), place);
        Calls.due(call + "shown by", x.fault(2), shown);
        Calls.due(call + "lenses", x.look(0), lenses);
        Calls.due(call + "tape", x.look(1), 0);
    }

    /** What can't stand at a place. */
    static void cant(String definition, int place) {
        refused(definition, 1, place, NONE);
    }
}

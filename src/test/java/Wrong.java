import java.util.function.IntSupplier;
import java.util.function.IntUnaryOperator;

/** Numbers for which there is nothing: each call with one of them is refused, and all stays. */
final class Wrong {
    private static final int[] SLOTS = {Integer.MIN_VALUE, -3, -2, -1, 8, 9, 16, Integer.MAX_VALUE};
    private static final int[] SIDES = {Integer.MIN_VALUE, -3, -2, -1, 2, 3, 4, Integer.MAX_VALUE};

    private Wrong() {
    }

    private static void each(PutBack x, String call, int[] numbers, int changes, IntUnaryOperator answer) {
        for (int number : numbers) {
            Calls.stays(x, call + " " + number, changes, () -> answer.applyAsInt(number));
        }
    }

    /** The lens is the number that the call is asked with. */
    static void lens(PutBack x, String call, IntUnaryOperator answer) {
        int told = x.look(0);
        each(x, call + " of lens", new int[] {Integer.MIN_VALUE, -2, -1, told, told + 1, 8, 9, Integer.MAX_VALUE}, 0, answer);
    }

    static void slot(PutBack x, String call, IntUnaryOperator answer) {
        each(x, call + " with slot", SLOTS, 0, answer);
    }

    static void side(PutBack x, String call, IntUnaryOperator answer) {
        each(x, call + " of side", SIDES, 0, answer);
    }

    /** Numbers up to one below the first that is taken, and from one above the last one on. */
    static void number(PutBack x, String call, int first, int last, IntUnaryOperator answer) {
        number(x, call, first, last, 0, answer);
    }

    static void number(PutBack x, String call, int first, int last, int changes, IntUnaryOperator answer) {
        each(x, call + " with", new int[] {Integer.MIN_VALUE, Integer.MIN_VALUE + 1, first - 2, first - 1, last + 1, last + 2, 1000000,
            Integer.MAX_VALUE - 1, Integer.MAX_VALUE}, changes, answer);
    }

    /** Of what is open: an edit that is refused is counted. */
    static void edit(PutBack x, String call, IntSupplier answer) {
        int refused = x.look(4);
        Calls.stays(x, call, Calls.REFUSED, answer);
        Calls.due(call + " is counted", x.look(4), refused + 1);
    }
}

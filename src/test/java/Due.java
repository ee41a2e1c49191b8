import java.util.Arrays;
import java.util.function.Supplier;
import java.util.function.ToIntFunction;

/** Counts the answers that are not the ones that are due, and ends the program by that. */
final class Due {
    private final String test;
    private int checked = 0;
    private int wrong = 0;

    Due(String test) {
        this.test = test;
    }

    void is(String call, long got, long want) {
        checked++;
        if (got == want) return;
        wrong++;
        System.out.println(test + ": " + call + " answered " + got + ", due is " + want);
    }

    void all(String call, int[] got, int... want) {
        checked++;
        if (Arrays.equals(got, want)) return;
        wrong++;
        System.out.println(test + ": " + call + " answered " + Arrays.toString(got) + ", due is " + Arrays.toString(want));
    }

    /** A refused call answers its error, and leaves all as it is in a twin that never got it, the history too. */
    void refused(String name, Supplier<TurnBids> maker, ToIntFunction<TurnBids> call, int error) {
        TurnBids one = maker.get();
        TurnBids twin = maker.get();
        is(name, call.applyAsInt(one), error);
        all("what there is behind refused " + name, Seen.all(one), Seen.all(twin));
        is("undo() behind refused " + name, one.undo(), twin.undo());
        all("what there is behind refused " + name + " and undo()", Seen.all(one), Seen.all(twin));
        is("restore(0) behind refused " + name, one.restore(0), twin.restore(0));
        all("what there is behind refused " + name + " and restore(0)", Seen.all(one), Seen.all(twin));
    }

    /** A call that only tells something leaves all as it is. */
    void onlyTells(String name, Supplier<TurnBids> maker, ToIntFunction<TurnBids> call, int answer) {
        refused(name, maker, call, answer);
    }

    void end() {
        System.out.println(test + ": " + checked + " checks, " + wrong + " wrong");
        if (wrong != 0 || checked == 0) System.exit(1);
    }
}

import java.util.Arrays;
import java.util.function.Supplier;
import java.util.function.ToIntFunction;

/** Counts the answers that are not the ones that are due, and ends the program by that. */
final class Due {
    private static final int MOST_UNDONE = 6;

    private final String test;
    private String sentence = "";
    private int checked = 0;
    private int wrong = 0;

    Due(String test) {
        this.test = test;
    }

    /** The document's words that the checks behind this call are about. */
    void sentence(String words) {
        sentence = " (" + words + ")";
    }

    void is(String call, long got, long want) {
        checked++;
        if (got != want) tell(call, Long.toString(got), Long.toString(want));
    }

    void all(String call, int[] got, int... want) {
        checked++;
        if (!Arrays.equals(got, want)) tell(call, Arrays.toString(got), Arrays.toString(want));
    }

    private void tell(String call, String got, String want) {
        wrong++;
        System.out.println(test + sentence + ": " + call + " answered " + got + ", due is " + want);
    }

    /**
     * A refused call answers its error, and leaves all as it is in a twin that never got it: what can be seen,
     * what undo goes back to, what stands on the pad, what the slots hold.
     */
    void refused(String name, Supplier<TurnBids> maker, ToIntFunction<TurnBids> call, int error) {
        String behind = " behind refused " + name;
        TurnBids one = maker.get();
        TurnBids twin = maker.get();
        is(name, call.applyAsInt(one), error);
        all("what there is" + behind, Seen.all(one), Seen.all(twin));
        same("run()" + behind, one, twin, TurnBids::run);
        for (int slot = 0; slot < 2; slot++) {
            int s = slot;
            one = maker.get();
            twin = maker.get();
            call.applyAsInt(one);
            same("restore(" + s + ")" + behind, one, twin, o -> o.restore(s));
        }
        one = maker.get();
        twin = maker.get();
        call.applyAsInt(one);
        for (int undone = 0; undone < MOST_UNDONE; undone++) same("undo()" + behind, one, twin, TurnBids::undo);
        is("undo()" + behind, one.undo(), twin.undo());
    }

    private void same(String name, TurnBids one, TurnBids twin, ToIntFunction<TurnBids> call) {
        is(name, call.applyAsInt(one), call.applyAsInt(twin));
        all("what there is then: " + name, Seen.all(one), Seen.all(twin));
    }

    /** Refused by its arguments alone, whatever the state is. */
    void refusedEverywhere(String name, ToIntFunction<TurnBids> call, int error) {
        refused(name + " on a new object", TurnBids::new, call, error);
        refused(name + " between two auctions", Games::between, call, error);
        refused(name + " in an auction", Games::underWay, call, error);
    }

    /** A call that only tells something leaves all as it is. */
    void onlyTells(String name, Supplier<TurnBids> maker, ToIntFunction<TurnBids> call, int answer) {
        refused(name, maker, call, answer);
    }

    void end() {
        System.out.println(test + ": " + checked + " checks, " + wrong + " wrong");
        if (wrong != 0 || checked == 0) System.exit(1);
    }
}

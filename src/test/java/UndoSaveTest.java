import java.util.function.Consumer;

/** Promises 24 to 26: undo, save, restore. */
public final class UndoSaveTest {
    private static final Due due = new Due("UndoSaveTest");

    public static void main(String[] args) {
        everyChangeIsUndone();
        whatIsNoChange();
        sixStates();
        undoAndGoOn();
        undoLeavesPadAndSlots();
        saveAndRestore();
        restoreInAnAuction();
        slotsAreTwo();
        refusals();
        due.end();
    }

    private static void everyChangeIsUndone() {
        undone("set", x -> x.set(TurnBids.STEP, 5));
        undone("coins", x -> x.coins(1, 77));
        undone("limit", x -> x.limit(1, 77));
        undone("prize", x -> x.prize(1, 77));
        undone("bid", x -> x.bid(9));
        undone("drop", TurnBids::drop);
        undone("act", TurnBids::act);
        undone("finish", TurnBids::finish);
        undone("restore", x -> x.restore(1));
        undone("set to what it is", x -> x.set(TurnBids.STEP, x.count(TurnBids.STEP)));
        undone("restore of what is", x -> {
            x.save(0);
            x.restore(0);
        });
        TurnBids x = new TurnBids();
        x.begin();
        due.is("undo() of begin", x.undo(), 0);
        due.all("what there is", Seen.all(x), Seen.all(new TurnBids()));
        TurnBids y = new TurnBids();
        y.begin();
        for (int drop = 0; drop < 4; drop++) y.drop();
        due.is("undo() of the end of an auction", y.undo(), 4);
        due.is("count(5)", y.count(5), 3);
        due.is("count(8)", y.count(8), 24);
        due.all("order", Seen.order(y), 0, 1, 2, 3, 4);
    }

    private static void undone(String name, Consumer<TurnBids> change) {
        TurnBids x = inAnAuction();
        int[] before = Seen.all(x);
        change.accept(x);
        due.is("count(15) behind " + name, x.count(15), 4);
        due.is("undo() of " + name, x.undo(), 3);
        due.all("what there is behind undo() of " + name, Seen.all(x), before);
    }

    private static void whatIsNoChange() {
        TurnBids x = inAnAuction();
        x.put('5');
        x.wipe();
        x.fault();
        x.save(0);
        x.save(1);
        x.ifFinished(0, 0);
        x.bestLimit(0, 0);
        x.coinsBehind(0, 1);
        x.richest(1);
        x.movesLeft();
        Seen.all(x);
        due.is("count(15)", x.count(15), 3);
        due.is("undo()", x.undo(), 2);
        due.is("count(5), the bid is undone", x.count(5), 4);
    }

    private static void sixStates() {
        TurnBids x = new TurnBids();
        for (int limit = 11; limit <= 24; limit++) {
            x.limit(0, limit);
            due.is("count(15)", x.count(15), Math.min(limit - 10, 6));
        }
        for (int left = 5; left >= 0; left--) {
            due.is("undo()", x.undo(), left);
            due.is("player(0, 1)", x.player(0, 1), 18 + left);
            due.is("count(15)", x.count(15), left);
        }
        due.is("undo()", x.undo(), TurnBids.NOT_POSSIBLE);
        due.is("player(0, 1)", x.player(0, 1), 18);
    }

    private static void undoAndGoOn() {
        TurnBids x = new TurnBids();
        for (int limit = 11; limit <= 20; limit++) x.limit(0, limit);
        x.undo();
        x.undo();
        due.is("limit(0, 50)", x.limit(0, 50), 18);
        due.is("count(15)", x.count(15), 5);
        due.is("limit(0, 51)", x.limit(0, 51), 50);
        due.is("limit(0, 52)", x.limit(0, 52), 51);
        int[] limits = {51, 50, 18, 17, 16, 15};
        for (int i = 0; i < 6; i++) {
            due.is("undo()", x.undo(), 5 - i);
            due.is("player(0, 1)", x.player(0, 1), limits[i]);
        }
        due.is("undo()", x.undo(), TurnBids.NOT_POSSIBLE);
    }

    private static void undoLeavesPadAndSlots() {
        TurnBids x = new TurnBids();
        x.limit(0, 30);
        x.put('+');
        x.save(0);
        due.is("undo()", x.undo(), 0);
        due.is("count(14)", x.count(14), 1);
        due.is("player(0, 1)", x.player(0, 1), 10);
        due.is("restore(0)", x.restore(0), 100);
        due.is("player(0, 1)", x.player(0, 1), 30);
        due.is("run()", x.run(), 1);
        due.is("undo()", x.undo(), 1);
        due.is("count(14), run() has emptied the pad", x.count(14), 0);
    }

    private static void saveAndRestore() {
        TurnBids x = new TurnBids();
        x.coins(3, 50);
        x.set(TurnBids.HALF, 7);
        x.prize(0, 9);
        due.is("save(0)", x.save(0), 130);
        due.is("count(15)", x.count(15), 3);
        int[] saved = Seen.state(x);
        x.finish();
        x.coins(0, 0);
        x.set(TurnBids.HALF, 8);
        x.limit(1, 1);
        x.prize(0, 10);
        x.put('-');
        due.is("restore(0)", x.restore(0), 130);
        due.all("what there is", Seen.state(x), saved);
        due.is("count(14)", x.count(14), 1);
        due.is("count(15)", x.count(15), 6);
        x.finish();
        due.is("restore(0), the slot keeps it", x.restore(0), 130);
        due.all("what there is", Seen.state(x), saved);
        x.coins(0, 1);
        due.is("save(0)", x.save(0), 111);
        x.coins(0, 2);
        due.is("restore(0) of the later one", x.restore(0), 111);
        due.is("player(0, 0)", x.player(0, 0), 1);
    }

    private static void restoreInAnAuction() {
        TurnBids x = inAnAuction();
        int[] saved = Seen.state(x);
        x.save(1);
        x.finish();
        x.restore(1);
        due.is("count(15)", x.count(15), 5);
        due.all("what there is", Seen.state(x), saved);
        due.is("bid(5)", x.bid(5), 2);
        due.is("bid(6)", x.bid(6), 1);
        x.restore(1);
        due.all("what there is, what is saved does not change", Seen.state(x), saved);
    }

    private static void slotsAreTwo() {
        TurnBids x = new TurnBids();
        x.coins(0, 30);
        due.is("save(0)", x.save(0), 110);
        due.is("restore(1)", x.restore(1), TurnBids.NOT_POSSIBLE);
        x.coins(0, 40);
        due.is("save(1)", x.save(1), 120);
        due.is("restore(0)", x.restore(0), 110);
        due.is("restore(1)", x.restore(1), 120);
        due.is("count(10)", x.count(10), 120);
    }

    private static void refusals() {
        due.refused("undo()", TurnBids::new, TurnBids::undo, TurnBids.NOT_POSSIBLE);
        for (int slot : new int[] {-1, 2, Integer.MAX_VALUE, Integer.MIN_VALUE}) {
            due.refused("save(" + slot + ")", UndoSaveTest::inAnAuction, o -> o.save(slot), TurnBids.BAD_VALUE);
            due.refused("restore(" + slot + ")", UndoSaveTest::inAnAuction, o -> o.restore(slot), TurnBids.BAD_VALUE);
        }
        for (int slot = 0; slot < 2; slot++) {
            int s = slot;
            due.refused("restore(" + s + ")", UndoSaveTest::begun, o -> o.restore(s), TurnBids.NOT_POSSIBLE);
        }
    }

    private static TurnBids begun() {
        TurnBids x = new TurnBids();
        x.begin();
        x.bid(4);
        return x;
    }

    /** Three changes; a new game is saved in slot 1. */
    private static TurnBids inAnAuction() {
        TurnBids x = new TurnBids();
        x.save(1);
        x.finish();
        x.begin();
        x.bid(4);
        return x;
    }
}

import java.util.function.Consumer;

/** The boundary cases that the promises 24 to 26 name: undo, save, restore. */
public final class EdgesOfUndoTest {
    private static final Due due = new Due("EdgesOfUndoTest");
    private static final int BAD_VALUE = TurnBids.BAD_VALUE, NOT_POSSIBLE = TurnBids.NOT_POSSIBLE;
    /* Where Seen.state tells it: behind five players' eight numbers, the order and four settings. */
    private static final int WHETHER_UNDER_WAY = 5 * 8 + 5 + 4;

    public static void main(String[] args) {
        undoOfNone();
        undoOfOne();
        eachChangeRecordsOneState();
        changesThatChangeNothing();
        whatIsNoChange();
        refusedCallsRecordNothing();
        sixAreKeptAndASeventhIsNot();
        eachOfTheSixIsWhole();
        undoAndOtherChanges();
        manyTimesAroundTheHistory();
        undoLeavesThePad();
        undoLeavesTheSlots();
        undoOfTheEndOfAnAuction();
        saveBeyond();
        restoreBeyond();
        restoreOfNothing();
        saveOfTheEmptyAndTheRichest();
        saveOverwrites();
        slotKeepsWhatIsSaved();
        slotsAreApart();
        slotHoldsAllButPadHistoryAndSlots();
        everyPartIsSaved();
        restoreIsAChange();
        due.end();
    }

    private static void undoOfNone() {
        due.sentence("NOT_POSSIBLE if there is none");
        due.refused("undo() on a new object", TurnBids::new, TurnBids::undo, NOT_POSSIBLE);
        TurnBids x = Games.underWay();
        for (int left = 5; left >= 0; left--) due.is("undo()", x.undo(), left);
        int[] state = Seen.all(x);
        due.is("undo(), all is undone", x.undo(), NOT_POSSIBLE);
        due.is("undo() once more", x.undo(), NOT_POSSIBLE);
        due.all("what there is", Seen.all(x), state);
    }

    private static void undoOfOne() {
        due.sentence("Returns how many changes can be undone then");
        TurnBids x = new TurnBids();
        x.coins(0, 0);
        due.is("undo()", x.undo(), 0);
        due.is("player(0, 0)", x.player(0, 0), 20);
        due.is("undo()", x.undo(), NOT_POSSIBLE);
    }

    private static TurnBids twoChanges() {
        TurnBids x = new TurnBids();
        x.save(0);
        x.limit(3, 12);
        x.begin();
        Seen.put(x, "5,6,-");
        return x;
    }

    private static void records(String name, Consumer<TurnBids> change) {
        TurnBids x = twoChanges();
        int[] state = Seen.state(x);
        change.accept(x);
        due.is("count(15) behind " + name, x.count(15), 3);
        due.is("undo() of " + name, x.undo(), 2);
        due.all("what there is behind undo() of " + name, Seen.state(x), state);
        due.is("undo() of what was ahead of " + name, x.undo(), 1);
        due.is("count(4)", x.count(4), 0);
    }

    private static void eachChangeRecordsOneState() {
        due.sentence("each method that is a change, and returns no error, records the state before it");
        records("set", x -> x.set(TurnBids.HALF, 0));
        records("coins", x -> x.coins(4, 9999));
        records("limit", x -> x.limit(4, 99));
        records("prize", x -> x.prize(4, 99));
        records("bid", x -> x.bid(20));
        records("drop", TurnBids::drop);
        records("act", TurnBids::act);
        records("finish", TurnBids::finish);
        records("run", TurnBids::run);
        records("restore", x -> x.restore(0));
        TurnBids x = new TurnBids();
        x.begin();
        due.is("count(15) behind begin", x.count(15), 1);
        due.is("undo() of begin", x.undo(), 0);
        due.all("what there is", Seen.all(x), Seen.all(new TurnBids()));
    }

    private static void changesThatChangeNothing() {
        due.sentence("(also if nothing is different then)");
        records("set to the same", x -> x.set(TurnBids.STEP, 1));
        records("coins to the same", x -> x.coins(0, 20));
        records("limit to the same", x -> x.limit(0, 10));
        records("prize to the same", x -> x.prize(0, 5));
        records("run of none", x -> {
            x.wipe();
            x.put('+');
            x.run();
        });
        records("restore of the same", x -> {
            x.save(1);
            x.restore(1);
        });
    }

    private static void whatIsNoChange() {
        due.sentence("each method that is a change");
        TurnBids x = twoChanges();
        int[] state = Seen.state(x);
        Seen.all(x);
        x.ifFinished(0, 3);
        x.bestLimit(0, 1);
        x.coinsBehind(0, 2);
        x.richest(2);
        x.movesLeft();
        x.fault();
        x.put('5');
        x.wipe();
        x.save(0);
        x.save(1);
        due.is("count(15)", x.count(15), 2);
        due.is("undo()", x.undo(), 1);
        due.is("count(4)", x.count(4), 0);
        due.is("undo() itself is no change", x.undo(), 0);
        due.is("player(3, 1)", x.player(3, 1), 10);
        due.is("restore(0)", x.restore(0), 100);
        due.all("what there is", Seen.state(x), state);
    }

    private static void refusedCallsRecordNothing() {
        due.sentence("each method that is a change, and returns no error, records the state before it");
        TurnBids x = twoChanges();
        x.bid(9);
        x.set(4, 0);
        x.set(0, 0);
        x.coins(5, 0);
        x.coins(0, 10000);
        x.coins(0, 8);
        x.limit(5, 0);
        x.limit(0, 100);
        x.prize(5, 0);
        x.prize(0, 100);
        x.begin();
        x.bid(9);
        x.bid(10000);
        x.restore(2);
        x.restore(1);
        x.put('x');
        x.run();
        due.is("count(15)", x.count(15), 3);
        due.is("undo()", x.undo(), 2);
        due.is("count(6), the bid is undone", x.count(6), TurnBids.NONE);
    }

    private static void sixAreKeptAndASeventhIsNot() {
        due.sentence("A history of at most 6 states is kept; when one more is recorded, the oldest one is dropped");
        for (int changes = 1; changes <= 14; changes++) {
            TurnBids x = new TurnBids();
            for (int change = 1; change <= changes; change++) x.limit(0, 50 + change);
            int kept = Math.min(changes, 6);
            due.is("count(15) behind " + changes, x.count(15), kept);
            for (int undone = 1; undone <= kept; undone++) {
                due.is("undo()", x.undo(), kept - undone);
                int left = changes - undone;
                due.is("player(0, 1) behind " + changes + " less " + undone, x.player(0, 1), left == 0 ? 10 : 50 + left);
            }
            due.is("undo() behind " + changes, x.undo(), NOT_POSSIBLE);
        }
    }

    private static void eachOfTheSixIsWhole() {
        due.sentence("A history of at most 6 states is kept");
        TurnBids x = behindMixed(10);
        for (int changes = 9; changes >= 4; changes--) {
            due.is("undo()", x.undo(), changes - 4);
            due.all("what there is behind " + changes, Seen.state(x), Seen.state(behindMixed(changes)));
        }
        due.is("undo()", x.undo(), NOT_POSSIBLE);
    }

    /** So many changes of many kinds, over the end of an auction. */
    private static TurnBids behindMixed(int changes) {
        TurnBids x = new TurnBids();
        for (int change = 0; change < changes; change++) {
            switch (change) {
                case 0 -> x.set(TurnBids.DROP, 60);
                case 1 -> x.begin();
                case 2 -> x.bid(5);
                case 3 -> x.bid(9);
                case 4 -> x.prize(3, 44);
                case 5 -> x.finish();
                case 6 -> x.coins(4, 71);
                case 7 -> x.begin();
                case 8 -> x.drop();
                default -> x.limit(2, 3);
            }
        }
        return x;
    }

    private static void undoAndOtherChanges() {
        due.sentence("Undoes the latest change");
        TurnBids x = new TurnBids();
        for (int limit = 1; limit <= 6; limit++) x.limit(0, limit);
        due.is("undo()", x.undo(), 5);
        due.is("limit(1, 77) in place of what is undone", x.limit(1, 77), 10);
        due.is("count(15)", x.count(15), 6);
        due.is("limit(1, 78), the oldest one is dropped", x.limit(1, 78), 77);
        due.is("count(15)", x.count(15), 6);
        int[] first = {5, 5, 4, 3, 2, 1};
        int[] second = {77, 10, 10, 10, 10, 10};
        for (int i = 0; i < 6; i++) {
            due.is("undo()", x.undo(), 5 - i);
            due.is("player(0, 1)", x.player(0, 1), first[i]);
            due.is("player(1, 1)", x.player(1, 1), second[i]);
        }
        due.is("undo()", x.undo(), NOT_POSSIBLE);
    }

    private static void manyTimesAroundTheHistory() {
        due.sentence("A history of at most 6 states is kept");
        for (int between = 0; between < 7; between++) {
            TurnBids x = new TurnBids();
            for (int time = 0; time < 10; time++) {
                for (int change = 0; change < between; change++) x.limit(0, change);
                x.coins(0, time);
                x.coins(0, 100 + time);
                x.undo();
                due.is("player(0, 0)", x.player(0, 0), time);
            }
            due.is("count(15)", x.count(15), 5);
        }
    }

    private static void undoLeavesThePad() {
        due.sentence("everything except the pad, the slots and the history is as it was before it");
        TurnBids x = new TurnBids();
        Seen.put(x, "+,1");
        x.limit(0, 0);
        x.put(Seen.packed("2,13"));
        due.is("undo()", x.undo(), 0);
        due.is("count(14)", x.count(14), 7);
        due.is("run()", x.run(), 3);
        due.is("count(6)", x.count(6), 13);
        due.is("undo()", x.undo(), 0);
        due.is("count(14), the pad that run() emptied stays empty", x.count(14), 0);
        x.limit(0, 1);
        x.wipe();
        x.undo();
        due.is("count(14)", x.count(14), 0);
        TurnBids y = new TurnBids();
        y.limit(0, 0);
        Seen.put(y, "-,".repeat(30));
        y.undo();
        due.is("count(14) of a full pad", y.count(14), 60);
    }

    private static void undoLeavesTheSlots() {
        due.sentence("everything except the pad, the slots and the history is as it was before it");
        TurnBids x = new TurnBids();
        x.coins(0, 30);
        x.save(0);
        x.undo();
        due.is("restore(0), undo() does not take back the save", x.restore(0), 110);
        due.is("undo() of restore(0)", x.undo(), 0);
        due.is("player(0, 0)", x.player(0, 0), 20);
        due.is("restore(0) once more", x.restore(0), 110);
        due.is("restore(1)", x.restore(1), NOT_POSSIBLE);
    }

    private static void undoOfTheEndOfAnAuction() {
        due.sentence("everything except the pad, the slots and the history is as it was before it");
        TurnBids x = Games.underWay();
        x.drop();
        int[] state = Seen.state(x);
        due.is("drop()", x.drop(), TurnBids.NONE);
        due.is("undo()", x.undo(), 5);
        due.all("what there is", Seen.state(x), state);
        due.is("act()", x.act(), TurnBids.NONE);
        due.is("undo()", x.undo(), 5);
        due.all("what there is", Seen.state(x), state);
        due.is("bid(14)", x.bid(14), 0);
    }

    private static void saveBeyond() {
        due.sentence("BAD_VALUE if there is no such slot");
        for (int slot : Beyond.range(0, 1)) {
            due.refusedEverywhere("save(" + slot + ")", o -> o.save(slot), BAD_VALUE);
        }
    }

    private static void restoreBeyond() {
        due.sentence("BAD_VALUE if there is no such slot");
        for (int slot : Beyond.range(0, 1)) {
            due.refusedEverywhere("restore(" + slot + ")", o -> o.restore(slot), BAD_VALUE);
        }
    }

    private static void restoreOfNothing() {
        due.sentence("NOT_POSSIBLE if nothing was saved in it");
        for (int slot = 0; slot < 2; slot++) {
            int s = slot;
            due.refused("restore(" + s + ") on a new object", TurnBids::new, o -> o.restore(s), NOT_POSSIBLE);
            due.refused("restore(" + s + "), the other slot holds something", () -> savedIn(1 - s), o -> o.restore(s), NOT_POSSIBLE);
        }
    }

    private static TurnBids savedIn(int slot) {
        TurnBids x = new TurnBids();
        x.coins(2, 3);
        x.save(slot);
        x.coins(2, 4);
        return x;
    }

    private static void saveOfTheEmptyAndTheRichest() {
        due.sentence("Returns how many coins all players have");
        TurnBids x = Games.alike(0, 0, 0);
        due.is("save(0)", x.save(0), 0);
        TurnBids y = Games.alike(9999, 99, 99);
        due.is("save(1)", y.save(1), 49995);
        y.coins(4, 9998);
        due.is("save(0)", y.save(0), 49994);
        due.is("restore(1)", y.restore(1), 49995);
        due.is("restore(0)", y.restore(0), 49994);
        x.coins(0, 1);
        due.is("restore(0)", x.restore(0), 0);
    }

    private static void saveOverwrites() {
        due.sentence("overwrites what was saved there");
        for (int slot = 0; slot < 2; slot++) {
            TurnBids x = new TurnBids();
            for (int coins = 0; coins < 5; coins++) {
                x.coins(1, coins);
                due.is("save(" + slot + ")", x.save(slot), 80 + coins);
            }
            x.coins(1, 9999);
            due.is("restore(" + slot + ")", x.restore(slot), 84);
            due.is("player(1, 0)", x.player(1, 0), 4);
        }
    }

    private static void slotKeepsWhatIsSaved() {
        due.sentence("Restores what was saved last in a slot, which keeps it");
        TurnBids x = twoChanges();
        int[] state = Seen.state(x);
        x.save(1);
        for (int time = 0; time < 3; time++) {
            due.is("restore(1)", x.restore(1), 100);
            due.all("what there is", Seen.state(x), state);
            x.finish();
            x.set(TurnBids.STEP, 9);
            x.prize(0, 0);
        }
    }

    private static void slotsAreApart() {
        due.sentence("slot: 0 or 1");
        TurnBids x = new TurnBids();
        x.coins(0, 1);
        due.is("save(0)", x.save(0), 81);
        x.coins(0, 2);
        due.is("save(1)", x.save(1), 82);
        due.is("restore(0)", x.restore(0), 81);
        due.is("save(1)", x.save(1), 81);
        x.coins(0, 3);
        due.is("save(0)", x.save(0), 83);
        due.is("restore(1)", x.restore(1), 81);
        due.is("restore(0)", x.restore(0), 83);
    }

    private static void slotHoldsAllButPadHistoryAndSlots() {
        due.sentence("Saves everything except the pad, the history and the slots in a slot");
        TurnBids x = Games.underWay();
        int[] state = Seen.state(x);
        x.save(0);
        x.wipe();
        x.put('7');
        x.coins(1, 5);
        x.save(1);
        x.undo();
        x.undo();
        due.is("restore(0)", x.restore(0), Games.underWay().count(10));
        due.all("what there is", Seen.state(x), state);
        due.is("count(14), the pad is not the one that was there", x.count(14), 1);
        due.is("count(15), nor is the history", x.count(15), 5);
        due.is("restore(1), nor are the slots", x.restore(1), Games.underWay().count(10) - Games.underWay().player(1, 0) + 5);
        TurnBids y = Games.between();
        int[] other = Seen.state(y);
        y.save(1);
        y.begin();
        y.bid(25);
        y.restore(1);
        due.all("what there is, no auction is under way", Seen.state(y), other);
        due.is("begin()", y.begin(), 2);
    }

    private static void everyPartIsSaved() {
        due.sentence("Saves everything except the pad, the history and the slots in a slot");
        int[] one = Seen.state(Games.underWay());
        int[] other = Seen.state(allElse(Games.underWay()));
        for (int part = 0; part < one.length; part++) {
            if (part != WHETHER_UNDER_WAY) due.is("part " + part + " is as before", one[part] == other[part] ? 1 : 0, 0);
        }
        for (int slot = 0; slot < 2; slot++) {
            TurnBids x = Games.underWay();
            x.save(slot);
            allElse(x);
            x.save(1 - slot);
            x.restore(slot);
            due.all("what there is behind restore(" + slot + ")", Seen.state(x), one);
            x.undo();
            due.all("what there is behind undo()", Seen.state(x), other);
            x.restore(slot);
            x.restore(1 - slot);
            due.all("what there is behind restore(" + (1 - slot) + ")", Seen.state(x), other);
        }
    }

    /** Changes all that can be seen, but that an auction is under way. */
    private static TurnBids allElse(TurnBids x) {
        x.finish();
        x.set(TurnBids.DROP, 100);
        for (int player = 0; player < 5; player++) x.limit(player, 0);
        for (int player = 0; player < 5; player++) {
            x.limit(player, 50);
            x.finish();
            x.limit(player, 0);
        }
        for (int player = 0; player < 5; player++) x.coins(player, 500);
        bidAllAndDrop(x, 3, 4, 1, 2);
        int[] settings = {5, 4, 77, 9};
        for (int setting = 0; setting < 4; setting++) x.set(setting, settings[setting]);
        for (int i = 0; i < 5; i++) {
            x.limit(i, 40 + i);
            x.coins(i, 600 + i);
            x.prize(i, 70 + i);
        }
        bidAllAndDrop(x, 0, 3, 4);
        return x;
    }

    private static void bidAllAndDrop(TurnBids x, int... players) {
        x.begin();
        for (int turn = 0; turn < 5; turn++) x.bid(x.count(7));
        for (int player : players) {
            for (int turn = 0; turn < 5 && x.count(5) != player; turn++) x.bid(x.count(7));
            x.drop();
        }
    }

    private static void restoreIsAChange() {
        due.sentence("Restores what was saved last in a slot, which keeps it. This is a change");
        TurnBids x = savedIn(0);
        due.is("count(15)", x.count(15), 2);
        due.is("restore(0)", x.restore(0), 83);
        due.is("count(15)", x.count(15), 3);
        due.is("undo()", x.undo(), 2);
        due.is("player(2, 0)", x.player(2, 0), 4);
        for (int time = 0; time < 7; time++) x.restore(0);
        due.is("count(15), the history is full", x.count(15), 6);
        for (int left = 5; left >= 0; left--) due.is("undo()", x.undo(), left);
        due.is("player(2, 0)", x.player(2, 0), 3);
    }
}

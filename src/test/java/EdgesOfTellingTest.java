/** The boundary cases that the promises 12 to 15 name: player, at, count, prizeOf. */
public final class EdgesOfTellingTest {
    private static final Due due = new Due("EdgesOfTellingTest");
    private static final int NONE = TurnBids.NONE, NO_SUCH = TurnBids.NO_SUCH, BAD_VALUE = TurnBids.BAD_VALUE;

    public static void main(String[] args) {
        playerBeyond();
        playerWhatBeyond();
        coinsAndLimitAtTheirEnds();
        placeInTheOrder();
        bidOfAPlayer();
        placeThatItGot();
        paidAndTakenSoFar();
        auctionsThatItWon();
        atBeyond();
        atInAnAuction();
        countBeyond();
        countOfAnAuction();
        highestBid();
        leastBid();
        maskOfThoseWhoHaveNotDropped();
        sumsAtTheirEnds();
        lengthOfThePad();
        changesThatCanBeUndone();
        prizeOfBeyond();
        nothingChanges();
        due.end();
    }

    private static void playerBeyond() {
        due.sentence("NO_SUCH if there is no such player");
        for (int player : Beyond.range(0, 4)) {
            for (int what = 0; what < 8; what += 7) {
                int w = what;
                due.refusedEverywhere("player(" + player + ", " + w + ")", o -> o.player(player, w), NO_SUCH);
            }
        }
    }

    private static void playerWhatBeyond() {
        due.sentence("BAD_VALUE if what is out of range");
        for (int what : Beyond.range(0, 7)) {
            due.refusedEverywhere("player(0, " + what + ")", o -> o.player(0, what), BAD_VALUE);
            due.refusedEverywhere("player(4, " + what + ")", o -> o.player(4, what), BAD_VALUE);
        }
    }

    private static void coinsAndLimitAtTheirEnds() {
        due.sentence("0 its coins, 1 its limit");
        TurnBids x = new TurnBids();
        x.coins(0, 0);
        x.coins(4, 9999);
        x.limit(0, 99);
        x.limit(4, 0);
        due.all("coins", Seen.players(x, 0), 0, 20, 20, 20, 9999);
        due.all("limits", Seen.players(x, 1), 99, 10, 10, 10, 0);
    }

    private static void placeInTheOrder() {
        due.sentence("2 its place in the order");
        TurnBids x = Games.underWay();
        due.all("places, those of the last auction yet", Seen.players(x, 2), 4, 3, 0, 2, 1);
        x.finish();
        due.all("places when it has ended", Seen.players(x, 2), 0, 4, 3, 1, 2);
    }

    private static void bidOfAPlayer() {
        due.sentence("3 its bid in the auction that is under way (NONE without one)");
        due.all("bids on a new object", Seen.players(new TurnBids(), 3), NONE, NONE, NONE, NONE, NONE);
        TurnBids x = new TurnBids();
        x.begin();
        due.all("bids just begun", Seen.players(x, 3), NONE, NONE, NONE, NONE, NONE);
        x.bid(1);
        due.all("bids behind one", Seen.players(x, 3), 1, NONE, NONE, NONE, NONE);
        TurnBids y = Games.underWay();
        due.all("bids, also of 2 who has dropped", Seen.players(y, 3), 12, NONE, 3, 8, 5);
        Games.drop(y, 2);
        due.all("bids when it has ended", Seen.players(y, 3), NONE, NONE, NONE, NONE, NONE);
        TurnBids z = Games.alike(9999, 0, 0);
        z.begin();
        z.bid(0);
        z.bid(9999);
        due.all("bids at their ends", Seen.players(z, 3), 0, 9999, NONE, NONE, NONE);
    }

    private static void placeThatItGot() {
        due.sentence("4 the place that it got in it (NONE if it has not dropped, or none is under way)");
        due.all("places got on a new object", Seen.players(new TurnBids(), 4), NONE, NONE, NONE, NONE, NONE);
        TurnBids x = new TurnBids();
        x.begin();
        due.all("places got, nobody has dropped", Seen.players(x, 4), NONE, NONE, NONE, NONE, NONE);
        x.drop();
        due.all("places got behind one", Seen.players(x, 4), 4, NONE, NONE, NONE, NONE);
        Games.drop(x, 2);
        due.all("places got behind three", Seen.players(x, 4), 4, 3, 2, NONE, NONE);
        x.drop();
        due.all("places got, it has ended", Seen.players(x, 4), NONE, NONE, NONE, NONE, NONE);
        x.begin();
        due.all("places got in the next one", Seen.players(x, 4), NONE, NONE, NONE, NONE, NONE);
    }

    private static void paidAndTakenSoFar() {
        due.sentence("5 coins that it paid so far, 6 coins of prizes that it took so far");
        TurnBids x = Games.alike(9999, 0, 99);
        x.set(TurnBids.HALF, 100);
        for (int round = 1; round <= 5; round++) {
            x.coins(0, 9999);
            x.begin();
            for (int turn = 0; turn < 5 && x.count(4) == 1; turn++) {
                if (x.count(5) == 0 && x.player(0, 3) == NONE) x.bid(9999);
                else x.drop();
            }
            due.is("player(0, 5) behind " + round, x.player(0, 5), 9999 * round);
            due.is("player(0, 6) behind " + round, x.player(0, 6), 99 * round);
            due.is("player(1, 6), beyond the ceiling of its coins", x.player(1, 6), 99 * round);
            due.is("player(1, 0)", x.player(1, 0), 9999);
        }
    }

    private static void auctionsThatItWon() {
        due.sentence("7 auctions that it won so far: in which it got the place 0");
        TurnBids x = new TurnBids();
        x.begin();
        Games.drop(x, 3);
        due.all("auctions won, none yet", Seen.players(x, 7), 0, 0, 0, 0, 0);
        x.drop();
        due.all("auctions won, also without a bid", Seen.players(x, 7), 0, 0, 0, 0, 1);
        x.limit(2, 20);
        x.finish();
        x.finish();
        due.all("auctions won", Seen.players(x, 7), 0, 0, 2, 0, 1);
        due.is("count(9)", x.count(9), 3);
    }

    private static void atBeyond() {
        due.sentence("NO_SUCH if place is not 0 to 4");
        for (int place : Beyond.range(0, 4)) {
            due.refusedEverywhere("at(" + place + ")", o -> o.at(place), NO_SUCH);
        }
    }

    private static void atInAnAuction() {
        due.sentence("Returns the player at a place of the order");
        TurnBids x = Games.underWay();
        due.all("order, that of the last auction yet", Seen.order(x), 2, 4, 3, 1, 0);
        x.drop();
        due.all("order, that of the last auction yet", Seen.order(x), 2, 4, 3, 1, 0);
        x.drop();
        due.all("order when it has ended", Seen.order(x), 0, 3, 4, 2, 1);
    }

    private static void countBeyond() {
        due.sentence("BAD_VALUE if what is out of range");
        for (int what : Beyond.range(0, 15)) {
            due.refusedEverywhere("count(" + what + ")", o -> o.count(what), BAD_VALUE);
        }
    }

    private static void countOfAnAuction() {
        due.sentence("4 whether an auction is under way (1 or 0), 5 the player whose turn it is (NONE without an auction)");
        TurnBids x = new TurnBids();
        due.is("count(4)", x.count(4), 0);
        due.is("count(5)", x.count(5), NONE);
        x.begin();
        due.is("count(4)", x.count(4), 1);
        due.is("count(5)", x.count(5), 0);
        Games.drop(x, 3);
        due.is("count(4)", x.count(4), 1);
        due.is("count(5)", x.count(5), 3);
        x.drop();
        due.is("count(4)", x.count(4), 0);
        due.is("count(5)", x.count(5), NONE);
        x.begin();
        due.is("count(5)", x.count(5), 4);
    }

    private static void highestBid() {
        due.sentence("6 the highest bid (NONE without one)");
        TurnBids x = Games.alike(9999, 0, 0);
        due.is("count(6) without an auction", x.count(6), NONE);
        x.begin();
        due.is("count(6) ahead of any bid", x.count(6), NONE);
        x.drop();
        due.is("count(6) behind a drop", x.count(6), NONE);
        x.bid(0);
        due.is("count(6)", x.count(6), 0);
        x.bid(9999);
        due.is("count(6)", x.count(6), 9999);
        x.drop();
        due.is("count(6)", x.count(6), 9999);
        Games.drop(x, 2);
        due.is("count(6) when it has ended", x.count(6), NONE);
        x.begin();
        due.is("count(6) of the next one", x.count(6), NONE);
    }

    private static void leastBid() {
        due.sentence("7 the least bid (NONE without an auction)");
        TurnBids x = Games.alike(9999, 0, 0);
        x.set(TurnBids.STEP, 9);
        due.is("count(7) without an auction", x.count(7), NONE);
        x.begin();
        due.is("count(7) of FIRST 0", x.count(7), 0);
        x.set(TurnBids.FIRST, 20);
        due.is("count(7) of FIRST 20", x.count(7), 20);
        x.bid(9998);
        due.is("count(7)", x.count(7), 10007);
        Games.drop(x, 4);
        due.is("count(7) when it has ended", x.count(7), NONE);
        x.begin();
        due.is("count(7) of the next one", x.count(7), 20);
    }

    private static void maskOfThoseWhoHaveNotDropped() {
        due.sentence("8 players who have not dropped, as a bit mask (0 without an auction)");
        TurnBids x = new TurnBids();
        due.is("count(8) without an auction", x.count(8), 0);
        x.begin();
        int[] masks = {31, 30, 28, 24, 0};
        for (int dropped = 0; dropped < 5; dropped++) {
            due.is("count(8) behind " + dropped, x.count(8), masks[dropped]);
            x.drop();
        }
        TurnBids y = Games.underWay();
        due.is("count(8), by the players and not by the places", y.count(8), 1 | 8 | 16);
    }

    private static void sumsAtTheirEnds() {
        due.sentence("9 rounds so far, 10 coins of all players, 11 coins paid so far, 12 coins of prizes taken so far, 13 the sum of the prizes");
        TurnBids x = Games.alike(0, 0, 0);
        due.is("count(10)", x.count(10), 0);
        due.is("count(13)", x.count(13), 0);
        x.finish();
        due.is("count(9)", x.count(9), 1);
        due.is("count(11)", x.count(11), 0);
        due.is("count(12)", x.count(12), 0);
        TurnBids y = Games.alike(9999, 0, 99);
        due.is("count(10)", y.count(10), 49995);
        due.is("count(13)", y.count(13), 495);
        y.set(TurnBids.HALF, 100);
        y.set(TurnBids.DROP, 100);
        y.begin();
        due.is("count(9), it has not ended", y.count(9), 0);
        for (int bid = 9995; bid <= 9999; bid++) y.bid(bid);
        Games.drop(y, 3);
        due.is("count(11)", y.count(11), 9995 + 9996 + 9997);
        due.is("count(12), it has not ended", y.count(12), 0);
        y.drop();
        due.is("count(11)", y.count(11), 9995 + 9996 + 9997 + 9998 + 9999);
        due.is("count(12)", y.count(12), 495);
        due.is("count(10)", y.count(10), 4 + 3 + 2 + 1 + 495);
    }

    private static void lengthOfThePad() {
        due.sentence("14 the length of the pad");
        TurnBids x = new TurnBids();
        due.is("count(14)", x.count(14), 0);
        for (int length = 1; length <= 60; length++) {
            x.put('!');
            due.is("count(14)", x.count(14), length);
        }
        x.put('!');
        due.is("count(14), the pad is full", x.count(14), 60);
        x.wipe();
        due.is("count(14)", x.count(14), 0);
    }

    private static void changesThatCanBeUndone() {
        due.sentence("15 how many changes can be undone");
        TurnBids x = new TurnBids();
        for (int changes = 0; changes < 10; changes++) {
            due.is("count(15) behind " + changes, x.count(15), Math.min(changes, 6));
            x.limit(0, changes);
        }
        for (int left = 5; left >= 0; left--) {
            x.undo();
            due.is("count(15)", x.count(15), left);
        }
        x.undo();
        due.is("count(15)", x.count(15), 0);
    }

    private static void prizeOfBeyond() {
        due.sentence("NO_SUCH if there is no such prize");
        for (int prize : Beyond.range(0, 4)) {
            due.refusedEverywhere("prizeOf(" + prize + ")", o -> o.prizeOf(prize), NO_SUCH);
        }
        TurnBids x = new TurnBids();
        x.prize(0, 0);
        x.prize(4, 99);
        due.is("prizeOf(0)", x.prizeOf(0), 0);
        due.is("prizeOf(1)", x.prizeOf(1), 4);
        due.is("prizeOf(4)", x.prizeOf(4), 99);
    }

    private static void nothingChanges() {
        due.sentence("what there is; nothing changes");
        for (int what = 0; what < 16; what++) {
            int w = what;
            if (w < 8) due.onlyTells("player(4, " + w + ")", Games::underWay, o -> o.player(4, w), Games.underWay().player(4, w));
            if (w < 5) due.onlyTells("at(" + w + ")", Games::underWay, o -> o.at(w), Games.underWay().at(w));
            if (w < 5) due.onlyTells("prizeOf(" + w + ")", Games::underWay, o -> o.prizeOf(w), Games.underWay().prizeOf(w));
            due.onlyTells("count(" + w + ")", Games::underWay, o -> o.count(w), Games.underWay().count(w));
        }
    }
}

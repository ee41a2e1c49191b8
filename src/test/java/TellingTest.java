/** Promises 12 to 15: player, at, count, prizeOf. */
public final class TellingTest {
    private static final Due due = new Due("TellingTest");
    private static final int NONE = TurnBids.NONE;

    public static void main(String[] args) {
        playerInAnAuction();
        playerBehindRounds();
        at();
        count();
        prizeOf();
        refusals();
        due.end();
    }

    private static void playerInAnAuction() {
        TurnBids x = inAnAuction();
        due.all("coins", Seen.players(x, 0), 19, 21, 22, 23, 24);
        due.all("limits", Seen.players(x, 1), 10, 2, 10, 10, 10);
        due.all("places", Seen.players(x, 2), 0, 4, 3, 2, 1);
        due.all("bids", Seen.players(x, 3), 3, 12, NONE, 8, 5);
        due.all("places got", Seen.players(x, 4), 3, NONE, 4, NONE, NONE);
        due.all("paid", Seen.players(x, 5), 6, 0, 0, 0, 0);
        due.all("prizes taken", Seen.players(x, 6), 5, 1, 2, 3, 4);
        due.all("auctions won", Seen.players(x, 7), 1, 0, 0, 0, 0);
    }

    private static void playerBehindRounds() {
        TurnBids x = new TurnBids();
        x.set(TurnBids.DROP, 100);
        x.limit(3, 30);
        x.limit(0, 0);
        for (int round = 0; round < 3; round++) x.finish();
        due.all("auctions won", Seen.players(x, 7), 0, 0, 0, 3, 0);
        int[] coins = Seen.players(x, 0);
        int[] paid = Seen.players(x, 5);
        int[] taken = Seen.players(x, 6);
        for (int player = 0; player < 5; player++) {
            due.is("coins of " + player, coins[player], 20 - paid[player] + taken[player]);
        }
        due.is("player(3, 6)", taken[3], 15);
        due.is("player(0, 6)", taken[0], 3);
        due.is("count(12)", x.count(12), 45);
        due.is("count(10)", x.count(10), 145 - x.count(11));
    }

    private static void at() {
        TurnBids x = inAnAuction();
        due.all("order", Seen.order(x), 0, 4, 3, 2, 1);
        for (int place = 0; place < 5; place++) due.is("place of at(" + place + ")", x.player(x.at(place), 2), place);
    }

    private static void count() {
        TurnBids x = inAnAuction();
        int[] counts = {2, 3, 51, 40, 1, 4, 12, 14, 26, 1, 109, 6, 15, 15, 3, 6};
        for (int what = 0; what < 16; what++) due.is("count(" + what + ")", x.count(what), counts[what]);
        x.prize(2, 98);
        due.is("count(13)", x.count(13), 110);
        x.finish();
        due.is("count(9)", x.count(9), 2);
        due.is("count(12)", x.count(12), 125);
    }

    private static void prizeOf() {
        TurnBids x = inAnAuction();
        x.prize(2, 98);
        int[] prizes = {5, 4, 98, 2, 1};
        for (int prize = 0; prize < 5; prize++) due.is("prizeOf(" + prize + ")", x.prizeOf(prize), prizes[prize]);
    }

    private static void refusals() {
        due.onlyTells("player(0, 7)", TellingTest::inAnAuction, o -> o.player(0, 7), 1);
        due.refused("player(-1, -1)", TellingTest::inAnAuction, o -> o.player(-1, -1), TurnBids.NO_SUCH);
        due.refused("player(5, 0)", TellingTest::inAnAuction, o -> o.player(5, 0), TurnBids.NO_SUCH);
        due.refused("player(0, -1)", TellingTest::inAnAuction, o -> o.player(0, -1), TurnBids.BAD_VALUE);
        due.refused("player(0, 8)", TellingTest::inAnAuction, o -> o.player(0, 8), TurnBids.BAD_VALUE);
        due.refused("at(-1)", TellingTest::inAnAuction, o -> o.at(-1), TurnBids.NO_SUCH);
        due.refused("at(5)", TellingTest::inAnAuction, o -> o.at(5), TurnBids.NO_SUCH);
        due.refused("count(-1)", TellingTest::inAnAuction, o -> o.count(-1), TurnBids.BAD_VALUE);
        due.refused("count(16)", TellingTest::inAnAuction, o -> o.count(16), TurnBids.BAD_VALUE);
        due.refused("prizeOf(-1)", TellingTest::inAnAuction, o -> o.prizeOf(-1), TurnBids.NO_SUCH);
        due.refused("prizeOf(5)", TellingTest::inAnAuction, o -> o.prizeOf(5), TurnBids.NO_SUCH);
    }

    /** In the second auction 2 and 0 have dropped, 1 has the highest bid, 4 the turn; a text is on the pad. */
    private static TurnBids inAnAuction() {
        TurnBids x = new TurnBids();
        x.save(0);
        x.limit(1, 2);
        Seen.put(x, "+,3");
        x.finish();
        x.set(TurnBids.STEP, 2);
        x.set(TurnBids.FIRST, 3);
        x.set(TurnBids.HALF, 51);
        x.set(TurnBids.DROP, 40);
        x.begin();
        x.bid(3);
        x.bid(5);
        x.bid(8);
        x.drop();
        x.bid(12);
        x.drop();
        return x;
    }
}

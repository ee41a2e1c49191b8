/** Promises 6 to 10: begin, bid, drop, act, finish. */
public final class AuctionTest {
    private static final Due due = new Due("AuctionTest");
    private static final int NONE = TurnBids.NONE;

    public static void main(String[] args) {
        begin();
        bid();
        firstBid();
        bidRefused();
        drop();
        dropInTheRing();
        sharesOfADrop();
        sharesOfTheLast();
        nobodyBids();
        prizesInTheNewOrder();
        coinsHaveACeiling();
        act();
        finish();
        finishGoesOn();
        due.end();
    }

    private static void begin() {
        TurnBids x = new TurnBids();
        due.is("begin()", x.begin(), 0);
        due.is("count(4)", x.count(4), 1);
        due.is("count(5)", x.count(5), 0);
        due.is("count(6)", x.count(6), NONE);
        due.is("count(8)", x.count(8), 31);
        due.is("count(9)", x.count(9), 0);
        due.is("count(15)", x.count(15), 1);
        due.refused("begin()", AuctionTest::begun, TurnBids::begin, TurnBids.NOT_POSSIBLE);
        TurnBids y = begun();
        y.finish();
        due.is("begin() in another order", y.begin(), y.at(0));
        due.is("at(0)", y.at(0), 2);
        due.all("bids", Seen.players(y, 3), NONE, NONE, NONE, NONE, NONE);
        due.all("places got", Seen.players(y, 4), NONE, NONE, NONE, NONE, NONE);
    }

    private static void bid() {
        TurnBids x = new TurnBids();
        x.set(TurnBids.STEP, 3);
        x.begin();
        due.is("bid(4)", x.bid(4), 1);
        due.is("count(7)", x.count(7), 7);
        due.is("bid(6)", x.bid(6), TurnBids.NOT_POSSIBLE);
        due.is("bid(7)", x.bid(7), 2);
        due.is("bid(20)", x.bid(20), 3);
        due.is("count(6)", x.count(6), 20);
        due.is("count(7)", x.count(7), 23);
        due.is("coins(3, 9999)", x.coins(3, 9999), 20);
        due.is("bid(9999)", x.bid(9999), 4);
        due.is("count(7)", x.count(7), 10002);
        due.all("bids", Seen.players(x, 3), 4, 7, 20, 9999, NONE);
        due.all("coins", Seen.players(x, 0), 20, 20, 20, 9999, 20);
        due.is("count(15)", x.count(15), 6);
        TurnBids y = begun();
        for (int bid = 4; bid < 9; bid++) y.bid(bid);
        due.is("bid(12) in place of an earlier one", y.bid(12), 4);
        due.all("bids", Seen.players(y, 3), 8, 7, 12, 6, 5);
    }

    private static void firstBid() {
        for (int first = 0; first <= 20; first += 10) {
            TurnBids x = new TurnBids();
            x.set(TurnBids.FIRST, first);
            x.begin();
            due.is("count(7)", x.count(7), first);
            if (first > 0) due.is("bid below FIRST", x.bid(first - 1), TurnBids.NOT_POSSIBLE);
            due.is("bid(FIRST)", x.bid(first), 1);
            due.is("count(6)", x.count(6), first);
            due.is("count(7)", x.count(7), first + 1);
        }
    }

    private static void bidRefused() {
        due.refused("bid(-1)", AuctionTest::begun, o -> o.bid(-1), TurnBids.BAD_VALUE);
        due.refused("bid(10000)", AuctionTest::begun, o -> o.bid(10000), TurnBids.BAD_VALUE);
        due.refused("bid(3)", AuctionTest::begun, o -> o.bid(3), TurnBids.NOT_POSSIBLE);
        due.refused("bid(26)", AuctionTest::begun, o -> o.bid(26), TurnBids.NOT_POSSIBLE);
        due.refused("bid(-1) without an auction", TurnBids::new, o -> o.bid(-1), TurnBids.BAD_VALUE);
        due.refused("bid(10000) without an auction", TurnBids::new, o -> o.bid(10000), TurnBids.BAD_VALUE);
        due.refused("bid(5) without an auction", TurnBids::new, o -> o.bid(5), TurnBids.NOT_POSSIBLE);
        due.is("bid(25), all that it has", begun().bid(25), 4);
    }

    private static void drop() {
        TurnBids x = new TurnBids();
        x.begin();
        due.is("drop()", x.drop(), 1);
        due.is("drop()", x.drop(), 2);
        due.is("bid(1)", x.bid(1), 3);
        due.is("drop()", x.drop(), 4);
        due.all("places got", Seen.players(x, 4), 4, 3, NONE, 2, NONE);
        due.all("places", Seen.players(x, 2), 0, 1, 2, 3, 4);
        due.is("count(8)", x.count(8), 20);
        due.is("drop()", x.drop(), NONE);
        due.all("order", Seen.order(x), 2, 4, 3, 1, 0);
        due.is("count(5)", x.count(5), NONE);
        due.is("count(6)", x.count(6), NONE);
        due.is("count(7)", x.count(7), NONE);
        due.is("count(8)", x.count(8), 0);
        due.is("count(9)", x.count(9), 1);
        due.is("count(15)", x.count(15), 6);
        due.all("bids", Seen.players(x, 3), NONE, NONE, NONE, NONE, NONE);
        due.all("places got", Seen.players(x, 4), NONE, NONE, NONE, NONE, NONE);
        due.all("coins", Seen.players(x, 0), 21, 22, 24, 23, 24);
        due.all("auctions won", Seen.players(x, 7), 0, 0, 1, 0, 0);
        due.refused("drop()", TurnBids::new, TurnBids::drop, TurnBids.NOT_POSSIBLE);
    }

    private static void dropInTheRing() {
        TurnBids x = new TurnBids();
        x.begin();
        x.drop();
        x.bid(1);
        x.bid(2);
        x.drop();
        due.is("bid(3), players 0 and 3 out", x.bid(3), 1);
        due.is("drop()", x.drop(), 2);
        due.is("bid(4)", x.bid(4), 4);
        due.is("bid(5)", x.bid(5), 2);
        due.is("bid(6)", x.bid(6), 4);
        due.is("drop()", x.drop(), NONE);
        due.all("order", Seen.order(x), 2, 4, 1, 3, 0);
        due.all("paid", Seen.players(x, 5), 0, 0, 3, 0, 0);
    }

    private static void sharesOfADrop() {
        int[] shares = {0, 1, 14, 15, 50, 57, 99, 100};
        int[] paid = {0, 0, 0, 1, 3, 3, 6, 7};
        for (int i = 0; i < shares.length; i++) {
            TurnBids x = new TurnBids();
            x.set(TurnBids.DROP, shares[i]);
            x.begin();
            for (int bid = 7; bid < 12; bid++) x.bid(bid);
            x.drop();
            due.is("paid for a dropped 7 at " + shares[i], x.player(0, 5), paid[i]);
            due.is("coins then", x.player(0, 0), 20 - paid[i]);
            due.is("count(11)", x.count(11), paid[i]);
        }
    }

    private static void sharesOfTheLast() {
        int[] shares = {0, 1, 14, 15, 43, 50, 99, 100};
        int[] paid = {0, 1, 1, 2, 4, 4, 7, 7};
        for (int i = 0; i < shares.length; i++) {
            TurnBids x = new TurnBids();
            x.set(TurnBids.HALF, shares[i]);
            x.begin();
            x.bid(7);
            for (int drop = 0; drop < 4; drop++) x.drop();
            due.is("paid for a last 7 at " + shares[i], x.player(0, 5), paid[i]);
            due.is("coins then", x.player(0, 0), 25 - paid[i]);
            due.is("count(11)", x.count(11), paid[i]);
        }
    }

    private static void nobodyBids() {
        TurnBids x = new TurnBids();
        x.set(TurnBids.HALF, 100);
        x.set(TurnBids.DROP, 100);
        x.begin();
        for (int drop = 0; drop < 4; drop++) x.drop();
        due.all("order", Seen.order(x), 4, 3, 2, 1, 0);
        due.all("paid", Seen.players(x, 5), 0, 0, 0, 0, 0);
        due.all("coins", Seen.players(x, 0), 21, 22, 23, 24, 25);
        TurnBids y = new TurnBids();
        y.set(TurnBids.FIRST, 0);
        y.begin();
        y.bid(0);
        for (int drop = 0; drop < 4; drop++) y.drop();
        due.is("paid for the bid 0", y.count(11), 0);
    }

    private static void prizesInTheNewOrder() {
        TurnBids x = new TurnBids();
        int[] prizes = {3, 60, 3, 0, 8};
        for (int prize = 0; prize < 5; prize++) x.prize(prize, prizes[prize]);
        x.begin();
        for (int drop = 0; drop < 4; drop++) x.drop();
        due.all("prizes taken", Seen.players(x, 6), 0, 3, 3, 8, 60);
        due.all("coins", Seen.players(x, 0), 20, 23, 23, 28, 80);
        due.is("count(12)", x.count(12), 74);
        x.begin();
        for (int drop = 0; drop < 4; drop++) x.drop();
        due.all("prizes taken", Seen.players(x, 6), 60, 11, 6, 11, 60);
        due.is("count(13), all prizes are there again", x.count(13), 74);
    }

    private static void coinsHaveACeiling() {
        TurnBids x = new TurnBids();
        x.prize(0, 99);
        x.coins(0, 9950);
        x.coins(4, 9999);
        x.begin();
        x.bid(10);
        for (int drop = 0; drop < 4; drop++) x.drop();
        due.is("player(0, 0): 9950 less 5, and 99 more", x.player(0, 0), 9999);
        due.is("player(0, 6)", x.player(0, 6), 99);
        due.is("player(4, 0)", x.player(4, 0), 9999);
        due.is("player(4, 6)", x.player(4, 6), 4);
    }

    private static void act() {
        TurnBids x = new TurnBids();
        x.begin();
        x.limit(0, 1);
        x.limit(1, 1);
        x.coins(2, 1);
        x.coins(3, 2);
        due.is("act(), the least bid is its limit", x.act(), 1);
        due.is("player(0, 3)", x.player(0, 3), 1);
        due.is("act(), the least bid is above its limit", x.act(), 2);
        due.is("player(1, 4)", x.player(1, 4), 4);
        due.is("act(), it has too few coins", x.act(), 3);
        due.is("player(2, 4)", x.player(2, 4), 3);
        due.is("act(), it has just as many coins", x.act(), 4);
        due.is("player(3, 3)", x.player(3, 3), 2);
        x.drop();
        due.is("act(), the auction ends", x.act(), NONE);
        due.is("at(0)", x.at(0), 3);
        due.is("count(15)", x.count(15), 6);
        due.refused("act()", TurnBids::new, TurnBids::act, TurnBids.NOT_POSSIBLE);
        TurnBids y = new TurnBids();
        y.set(TurnBids.FIRST, 0);
        y.limit(0, 0);
        y.coins(0, 0);
        y.begin();
        due.is("act() with neither limit nor coins", y.act(), 1);
        due.is("player(0, 3)", y.player(0, 3), 0);
    }

    private static void finish() {
        TurnBids x = new TurnBids();
        due.is("finish()", x.finish(), 4);
        due.all("order", Seen.order(x), 4, 3, 2, 1, 0);
        due.all("paid", Seen.players(x, 5), 0, 0, 0, 0, 5);
        due.is("count(15)", x.count(15), 1);
        due.is("count(4)", x.count(4), 0);
        due.is("finish()", x.finish(), 0);
        due.is("count(9)", x.count(9), 2);
        due.is("undo()", x.undo(), 1);
        due.is("undo()", x.undo(), 0);
        due.all("what there is", Seen.all(x), Seen.all(new TurnBids()));
        TurnBids y = new TurnBids();
        y.set(TurnBids.FIRST, 0);
        for (int player = 0; player < 5; player++) y.limit(player, 99);
        for (int player = 0; player < 5; player++) y.coins(player, 9999);
        due.is("finish() of the longest auction", y.finish(), 4);
        due.is("count(11)", y.count(11), 50);
    }

    private static void finishGoesOn() {
        TurnBids x = new TurnBids();
        x.begin();
        x.drop();
        x.bid(15);
        due.is("finish() of one that is under way", x.finish(), 1);
        due.all("order", Seen.order(x), 1, 4, 3, 2, 0);
        due.is("count(9)", x.count(9), 1);
        due.is("player(1, 5)", x.player(1, 5), 8);
    }

    /** The player 2 is at the place 0, has 25 coins, and the turn; 4 is the least bid. */
    private static TurnBids begun() {
        TurnBids x = new TurnBids();
        x.save(0);
        x.limit(2, 20);
        x.finish();
        x.set(TurnBids.FIRST, 4);
        x.coins(2, 25);
        x.begin();
        return x;
    }
}

import java.util.function.Supplier;

/** The boundary cases that the promises 1 to 10 name: a new object, set, coins, limit, prize, begin, bid, drop, act, finish. */
public final class EdgesOfChangesTest {
    private static final Due due = new Due("EdgesOfChangesTest");
    private static final int NONE = TurnBids.NONE, NO_SUCH = TurnBids.NO_SUCH, BAD_VALUE = TurnBids.BAD_VALUE;
    private static final int NOT_POSSIBLE = TurnBids.NOT_POSSIBLE;
    private static final int[] LEAST = {1, 0, 0, 0}, MOST = {9, 20, 100, 100};

    public static void main(String[] args) {
        newObject();
        objectsAreApart();
        setAtItsEnds();
        setBeyond();
        noSuchSetting();
        coinsAtTheirEnds();
        coinsBeyond();
        coinsBelowTheBid();
        coinsBelowABidThatIsNoMore();
        limitAtItsEnds();
        limitBeyond();
        prizeAtItsEnds();
        prizeBeyond();
        beginUnderWay();
        bidAtItsEnds();
        bidBeyond();
        bidWithoutAnAuction();
        bidNotPossible();
        dropAtTheEnd();
        dropWithoutAnAuction();
        actAtTheEnd();
        actWithoutAnAuction();
        finishWithoutAnAuction();
        finishJustBegun();
        finishJustAheadOfTheEnd();
        due.end();
    }

    private static void newObject() {
        due.sentence("Creates players with 20 coins each, and no auction");
        TurnBids x = new TurnBids();
        due.is("count(10)", x.count(10), 100);
        due.is("count(4)", x.count(4), 0);
        due.is("count(5)", x.count(5), NONE);
        due.is("count(8)", x.count(8), 0);
        due.is("count(9)", x.count(9), 0);
        due.is("count(14)", x.count(14), 0);
        due.is("count(15)", x.count(15), 0);
        for (int what = 5; what < 8; what++) due.all("player(.., " + what + ")", Seen.players(x, what), 0, 0, 0, 0, 0);
    }

    private static void objectsAreApart() {
        due.sentence("Creates players with 20 coins each, and no auction");
        int[] before = Seen.all(new TurnBids());
        TurnBids other = Games.underWay();
        other.save(0);
        TurnBids x = new TurnBids();
        due.all("a new object behind another one's calls", Seen.all(x), before);
        due.is("restore(0)", x.restore(0), NOT_POSSIBLE);
        due.is("undo()", x.undo(), NOT_POSSIBLE);
    }

    private static void setAtItsEnds() {
        due.sentence("Returns the previous value");
        for (int setting = 0; setting < 4; setting++) {
            TurnBids x = Games.underWay();
            int previous = x.count(setting);
            for (int value : new int[] {LEAST[setting], MOST[setting], LEAST[setting] + 1, MOST[setting] - 1, LEAST[setting]}) {
                due.is("set(" + setting + ", " + value + ")", x.set(setting, value), previous);
                due.is("count(" + setting + ")", x.count(setting), value);
                previous = value;
            }
            for (int other = 0; other < 4; other++) {
                if (other != setting) due.is("count(" + other + ")", x.count(other), Games.underWay().count(other));
            }
        }
    }

    private static void setBeyond() {
        due.sentence("BAD_VALUE if .. value is out of its range");
        for (int setting = 0; setting < 4; setting++) {
            int s = setting;
            for (int value : Beyond.range(LEAST[s], MOST[s])) {
                due.refusedEverywhere("set(" + s + ", " + value + ")", o -> o.set(s, value), BAD_VALUE);
            }
        }
    }

    private static void noSuchSetting() {
        due.sentence("BAD_VALUE if there is no such setting");
        for (int setting : Beyond.range(0, 3)) {
            due.refusedEverywhere("set(" + setting + ", 1)", o -> o.set(setting, 1), BAD_VALUE);
            due.refusedEverywhere("set(" + setting + ", -1)", o -> o.set(setting, -1), BAD_VALUE);
        }
    }

    private static void coinsAtTheirEnds() {
        due.sentence("coins: 0 to 9999. Returns the previous ones");
        for (int player = 0; player < 5; player++) {
            TurnBids x = Games.between();
            int previous = x.player(player, 0);
            for (int coins : new int[] {0, 9999, 1, 9998, 0, 0}) {
                due.is("coins(" + player + ", " + coins + ")", x.coins(player, coins), previous);
                due.is("player(" + player + ", 0)", x.player(player, 0), coins);
                previous = coins;
            }
            due.is("count(10), the others keep theirs", x.count(10), Games.between().count(10) - Games.between().player(player, 0));
        }
    }

    private static void coinsBeyond() {
        due.sentence("NO_SUCH if there is no such player; BAD_VALUE if coins is out of range");
        for (int player : Beyond.range(0, 4)) {
            due.refusedEverywhere("coins(" + player + ", 20)", o -> o.coins(player, 20), NO_SUCH);
        }
        for (int coins : Beyond.range(0, 9999)) {
            due.refusedEverywhere("coins(0, " + coins + ")", o -> o.coins(0, coins), BAD_VALUE);
            due.refusedEverywhere("coins(4, " + coins + ")", o -> o.coins(4, coins), BAD_VALUE);
        }
    }

    private static void coinsBelowTheBid() {
        due.sentence("NOT_POSSIBLE if the player's bid in the auction that is under way, and it has not dropped, would be above them");
        int[] players = {4, 3, 0};
        int[] bids = {5, 8, 12};
        for (int i = 0; i < 3; i++) {
            int player = players[i];
            int bid = bids[i];
            for (int coins = 0; coins < bid; coins++) {
                int c = coins;
                due.refused("coins(" + player + ", " + c + ") below the bid " + bid, Games::underWay, o -> o.coins(player, c), NOT_POSSIBLE);
            }
            TurnBids x = Games.underWay();
            int previous = x.player(player, 0);
            due.is("coins(" + player + ", " + bid + ") of the bid " + bid, x.coins(player, bid), previous);
            due.is("coins of one more", x.coins(player, bid + 1), bid);
        }
        Supplier<TurnBids> bidder = () -> {
            TurnBids x = new TurnBids();
            x.coins(0, 9999);
            x.begin();
            x.bid(9999);
            return x;
        };
        due.refused("coins(0, 9998) below the bid 9999", bidder, o -> o.coins(0, 9998), NOT_POSSIBLE);
        due.is("coins(0, 9999) of the bid 9999", bidder.get().coins(0, 9999), 9999);
    }

    private static void coinsBelowABidThatIsNoMore() {
        due.sentence("NOT_POSSIBLE if the player's bid in the auction that is under way, and it has not dropped, would be above them");
        TurnBids x = Games.underWay();
        int coins = x.player(2, 0);
        due.is("player(2, 3), it has dropped", x.player(2, 3), 3);
        due.is("coins(2, 0), it has dropped", x.coins(2, 0), coins);
        due.is("coins(1, 0), it has dropped without a bid", x.coins(1, 0), Games.underWay().player(1, 0));
        TurnBids y = new TurnBids();
        y.begin();
        due.is("coins(0, 0), it has no bid yet", y.coins(0, 0), 20);
        due.is("coins(4, 0), it has had no turn yet", y.coins(4, 0), 20);
        TurnBids z = Games.underWay();
        z.finish();
        int then = z.player(0, 0);
        due.is("coins(0, 0), the auction has ended", z.coins(0, 0), then);
        TurnBids w = Games.alike(0, 0, 0);
        w.begin();
        w.bid(0);
        due.is("coins(0, 0) of the bid 0", w.coins(0, 0), 0);
    }

    private static void limitAtItsEnds() {
        due.sentence("limit: 0 to 99. Returns the previous one");
        for (int player = 0; player < 5; player++) {
            TurnBids x = Games.underWay();
            int previous = x.player(player, 1);
            for (int limit : new int[] {0, 99, 1, 98, 0, 0}) {
                due.is("limit(" + player + ", " + limit + ")", x.limit(player, limit), previous);
                due.is("player(" + player + ", 1)", x.player(player, 1), limit);
                previous = limit;
            }
            for (int other = 0; other < 5; other++) {
                if (other != player) due.is("player(" + other + ", 1)", x.player(other, 1), Games.underWay().player(other, 1));
            }
        }
    }

    private static void limitBeyond() {
        due.sentence("NO_SUCH if there is no such player; BAD_VALUE if limit is out of range");
        for (int player : Beyond.range(0, 4)) {
            due.refusedEverywhere("limit(" + player + ", 7)", o -> o.limit(player, 7), NO_SUCH);
        }
        for (int limit : Beyond.range(0, 99)) {
            due.refusedEverywhere("limit(0, " + limit + ")", o -> o.limit(0, limit), BAD_VALUE);
            due.refusedEverywhere("limit(4, " + limit + ")", o -> o.limit(4, limit), BAD_VALUE);
        }
    }

    private static void prizeAtItsEnds() {
        due.sentence("prize: 0 to 4; coins: 0 to 99. Returns the previous coins");
        for (int prize = 0; prize < 5; prize++) {
            TurnBids x = Games.underWay();
            int previous = x.prizeOf(prize);
            int others = x.count(13) - previous;
            for (int coins : new int[] {0, 99, 1, 98, 0, 0}) {
                due.is("prize(" + prize + ", " + coins + ")", x.prize(prize, coins), previous);
                due.is("prizeOf(" + prize + ")", x.prizeOf(prize), coins);
                due.is("count(13)", x.count(13), others + coins);
                previous = coins;
            }
        }
    }

    private static void prizeBeyond() {
        due.sentence("NO_SUCH if there is no such prize; BAD_VALUE if coins is out of range");
        for (int prize : Beyond.range(0, 4)) {
            due.refusedEverywhere("prize(" + prize + ", 7)", o -> o.prize(prize, 7), NO_SUCH);
        }
        for (int coins : Beyond.range(0, 99)) {
            due.refusedEverywhere("prize(0, " + coins + ")", o -> o.prize(0, coins), BAD_VALUE);
            due.refusedEverywhere("prize(4, " + coins + ")", o -> o.prize(4, coins), BAD_VALUE);
        }
    }

    private static void beginUnderWay() {
        due.sentence("Returns the player whose turn it is; NOT_POSSIBLE if one is under way");
        due.refused("begin() behind begin()", () -> dropped(0), TurnBids::begin, NOT_POSSIBLE);
        due.refused("begin() ahead of the last drop", () -> dropped(3), TurnBids::begin, NOT_POSSIBLE);
        due.refused("begin() behind bids", Games::underWay, TurnBids::begin, NOT_POSSIBLE);
        due.is("begin() behind the last drop", dropped(4).begin(), 4);
        due.is("begin() on a new object", new TurnBids().begin(), 0);
        due.is("begin() between two auctions", Games.between().begin(), 2);
    }

    private static void bidAtItsEnds() {
        due.sentence("coins: 0 to 9999. Returns the player whose turn it is then");
        TurnBids x = Games.alike(9999, 0, 0);
        x.begin();
        due.is("bid(0)", x.bid(0), 1);
        due.is("player(0, 3)", x.player(0, 3), 0);
        due.is("bid(9999)", x.bid(9999), 2);
        due.is("player(1, 3)", x.player(1, 3), 9999);
        due.is("player(1, 0), nothing is paid yet", x.player(1, 0), 9999);
    }

    private static void bidBeyond() {
        due.sentence("BAD_VALUE if coins is out of range");
        for (int coins : Beyond.range(0, 9999)) {
            due.refusedEverywhere("bid(" + coins + ")", o -> o.bid(coins), BAD_VALUE);
        }
    }

    private static void bidWithoutAnAuction() {
        due.sentence("NOT_POSSIBLE if no auction is under way");
        for (int coins : new int[] {0, 1, 5, 20, 9999}) {
            due.refused("bid(" + coins + ") on a new object", TurnBids::new, o -> o.bid(coins), NOT_POSSIBLE);
            due.refused("bid(" + coins + ") between two", Games::between, o -> o.bid(coins), NOT_POSSIBLE);
            due.refused("bid(" + coins + ") behind the last drop", () -> dropped(4), o -> o.bid(coins), NOT_POSSIBLE);
        }
    }

    private static void bidNotPossible() {
        due.sentence("NOT_POSSIBLE if .. the bid is not possible");
        for (int coins : new int[] {0, 5, 11, 12, 13, 23, 9999}) {
            due.refused("bid(" + coins + "), 14 to 22 are possible", Games::underWay, o -> o.bid(coins), NOT_POSSIBLE);
        }
        due.is("bid(14)", Games.underWay().bid(14), 3);
        due.is("bid(22)", Games.underWay().bid(22), 3);
    }

    private static void dropAtTheEnd() {
        due.sentence("Returns the player whose turn it is then (NONE, if the auction ends by that)");
        for (int ahead = 0; ahead < 4; ahead++) {
            TurnBids x = dropped(ahead);
            due.is("drop() behind " + ahead, x.drop(), ahead < 3 ? ahead + 1 : NONE);
            due.is("count(5)", x.count(5), ahead < 3 ? ahead + 1 : NONE);
        }
        TurnBids x = Games.underWay();
        due.is("drop()", x.drop(), 3);
        due.is("drop()", x.drop(), NONE);
    }

    private static void dropWithoutAnAuction() {
        due.sentence("NOT_POSSIBLE if no auction is under way");
        due.refused("drop() on a new object", TurnBids::new, TurnBids::drop, NOT_POSSIBLE);
        due.refused("drop() between two", Games::between, TurnBids::drop, NOT_POSSIBLE);
        due.refused("drop() behind the last drop", () -> dropped(4), TurnBids::drop, NOT_POSSIBLE);
    }

    private static void actAtTheEnd() {
        due.sentence("Returns the player whose turn it is then (NONE, if the auction ends by that)");
        TurnBids x = dropped(3);
        due.is("act(), two are left, and 3 bids", x.act(), 4);
        x.limit(4, 1);
        due.is("act(), two are left, and 4 drops", x.act(), NONE);
        due.is("count(5)", x.count(5), NONE);
        due.is("count(9)", x.count(9), 1);
        TurnBids y = dropped(2);
        y.limit(2, 0);
        due.is("act(), three are left, and 2 drops", y.act(), 3);
    }

    private static void actWithoutAnAuction() {
        due.sentence("NOT_POSSIBLE if no auction is under way");
        due.refused("act() on a new object", TurnBids::new, TurnBids::act, NOT_POSSIBLE);
        due.refused("act() between two", Games::between, TurnBids::act, NOT_POSSIBLE);
        due.refused("act() behind the last drop", () -> dropped(4), TurnBids::act, NOT_POSSIBLE);
    }

    private static void finishWithoutAnAuction() {
        due.sentence("if none is under way, one is begun ahead of that");
        TurnBids x = new TurnBids();
        due.is("finish()", x.finish(), 4);
        due.is("count(9)", x.count(9), 1);
        due.is("count(4)", x.count(4), 0);
        due.is("count(15), one change", x.count(15), 1);
        due.is("undo()", x.undo(), 0);
        due.all("what there is", Seen.all(x), Seen.all(new TurnBids()));
    }

    private static void finishJustBegun() {
        due.sentence("Lets all players act by their limits until the auction ends");
        TurnBids x = dropped(0);
        due.is("finish()", x.finish(), 4);
        due.is("count(9), the one that is under way, no other", x.count(9), 1);
        due.all("order", Seen.order(x), 4, 3, 2, 1, 0);
        due.is("undo()", x.undo(), 1);
        due.all("what there is", Seen.all(x), Seen.all(dropped(0)));
    }

    private static void finishJustAheadOfTheEnd() {
        due.sentence("Returns the player at the place 0 then");
        TurnBids x = dropped(3);
        x.bid(15);
        due.is("finish(), 4 alone has a turn yet", x.finish(), 3);
        due.all("order", Seen.order(x), 3, 4, 2, 1, 0);
        due.is("count(9)", x.count(9), 1);
        TurnBids y = Games.underWay();
        due.is("finish()", y.finish(), 0);
        due.all("order", Seen.order(y), 0, 3, 4, 2, 1);
    }

    /** In the first auction, so many have dropped. */
    private static TurnBids dropped(int times) {
        TurnBids x = new TurnBids();
        x.begin();
        Games.drop(x, times);
        return x;
    }
}

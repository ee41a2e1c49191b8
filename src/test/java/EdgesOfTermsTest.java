/** The boundary cases that the document names under "Terms": conventions, settings, players, an auction, limits. */
public final class EdgesOfTermsTest {
    private static final Due due = new Due("EdgesOfTermsTest");
    private static final int NONE = TurnBids.NONE, NO_SUCH = TurnBids.NO_SUCH, BAD_VALUE = TurnBids.BAD_VALUE;
    private static final int NOT_POSSIBLE = TurnBids.NOT_POSSIBLE;

    public static void main(String[] args) {
        noSuchIsAheadOfBadValue();
        noSuchAndBadValueAreAheadOfNotPossible();
        noneOnlyWithoutAnError();
        numberedFromZero();
        firstValues();
        newAuctionKnowsNothingOfTheLast();
        bidOfNoMoreThanItsCoins();
        leastBidIsFirst();
        leastBidBehindABid();
        leastBidBehindTheBidZero();
        nobodyCanBidMore();
        bidInPlaceOfAnEarlierOne();
        placesFromTheLastOne();
        dropIsPaidAtOnce();
        dropIsRoundedDown();
        dropWithoutABid();
        nextInTheRing();
        ringOfTheNewOrder();
        endsWithOneLeft();
        lastIsRoundedUp();
        lastWithoutABid();
        greatestPrizeThatIsLeft();
        coinsUpToTheCeiling();
        paidAheadOfTheCeiling();
        coinsDownToZero();
        limitIsJustEnough();
        coinsAreJustEnough();
        limitsAtTheirEnds();
        theLastCallIsLikeTheFirst();
        due.end();
    }

    private static void noSuchIsAheadOfBadValue() {
        due.sentence("it names its errors in the order in which they are checked, and the first one that applies is returned");
        for (int who : new int[] {-1, 5, Integer.MIN_VALUE, Integer.MAX_VALUE}) {
            for (int bad : new int[] {-1, 10000, Integer.MIN_VALUE, Integer.MAX_VALUE}) {
                String both = "(" + who + ", " + bad + ")";
                due.refusedEverywhere("coins" + both, o -> o.coins(who, bad), NO_SUCH);
                due.refusedEverywhere("limit" + both, o -> o.limit(who, bad), NO_SUCH);
                due.refusedEverywhere("prize" + both, o -> o.prize(who, bad), NO_SUCH);
                due.refusedEverywhere("player" + both, o -> o.player(who, bad), NO_SUCH);
                due.refusedEverywhere("ifFinished" + both, o -> o.ifFinished(who, bad), NO_SUCH);
                due.refusedEverywhere("bestLimit" + both, o -> o.bestLimit(who, bad), NO_SUCH);
                due.refusedEverywhere("coinsBehind" + both, o -> o.coinsBehind(who, bad), NO_SUCH);
            }
        }
        due.refusedEverywhere("coinsBehind(5, 0)", o -> o.coinsBehind(5, 0), NO_SUCH);
        due.refusedEverywhere("coinsBehind(5, 101)", o -> o.coinsBehind(5, 101), NO_SUCH);
        due.refusedEverywhere("player(5, 8)", o -> o.player(5, 8), NO_SUCH);
        due.refusedEverywhere("ifFinished(5, 4)", o -> o.ifFinished(5, 4), NO_SUCH);
        due.refusedEverywhere("bestLimit(5, 2)", o -> o.bestLimit(5, 2), NO_SUCH);
        due.refusedEverywhere("limit(5, 100)", o -> o.limit(5, 100), NO_SUCH);
        due.refusedEverywhere("prize(5, 100)", o -> o.prize(5, 100), NO_SUCH);
    }

    private static void noSuchAndBadValueAreAheadOfNotPossible() {
        due.sentence("it names its errors in the order in which they are checked, and the first one that applies is returned");
        due.refused("coins(0, -1) under the bid 12", Games::underWay, o -> o.coins(0, -1), BAD_VALUE);
        due.refused("coins(0, least int) under the bid 12", Games::underWay, o -> o.coins(0, Integer.MIN_VALUE), BAD_VALUE);
        due.refused("coins(5, 0)", Games::underWay, o -> o.coins(5, 0), NO_SUCH);
        for (int bad : new int[] {-1, 10000, Integer.MIN_VALUE, Integer.MAX_VALUE}) {
            due.refused("bid(" + bad + "), no auction", Games::between, o -> o.bid(bad), BAD_VALUE);
            due.refused("bid(" + bad + "), no such coins", Games::underWay, o -> o.bid(bad), BAD_VALUE);
        }
        for (int bad : new int[] {-1, 2}) {
            due.refused("restore(" + bad + "), nothing saved", TurnBids::new, o -> o.restore(bad), BAD_VALUE);
        }
    }

    private static void noneOnlyWithoutAnError() {
        due.sentence("NONE (-100006) is not an error; it is returned only if no error applies");
        TurnBids x = new TurnBids();
        due.is("player(-1, 3)", x.player(-1, 3), NO_SUCH);
        due.is("player(5, 4)", x.player(5, 4), NO_SUCH);
        due.is("player(0, 3)", x.player(0, 3), NONE);
        due.is("player(4, 4)", x.player(4, 4), NONE);
        for (int what = 5; what < 8; what++) due.is("count(" + what + ")", x.count(what), NONE);
        due.is("drop() without an auction", x.drop(), NOT_POSSIBLE);
        due.is("act() without an auction", x.act(), NOT_POSSIBLE);
    }

    private static void numberedFromZero() {
        due.sentence("Everything is numbered from 0");
        TurnBids x = new TurnBids();
        due.is("coins(0, 1)", x.coins(0, 1), 20);
        due.is("coins(4, 2)", x.coins(4, 2), 20);
        due.is("prize(0, 1)", x.prize(0, 1), 5);
        due.is("prize(4, 2)", x.prize(4, 2), 1);
        due.is("at(0)", x.at(0), 0);
        due.is("at(4)", x.at(4), 4);
        due.is("save(0)", x.save(0), 63);
        due.is("save(1)", x.save(1), 63);
        due.is("set(0, 1)", x.set(0, 1), 1);
        due.is("set(3, 1)", x.set(3, 1), 0);
    }

    private static void firstValues() {
        due.sentence("STEP (1 to 9; 1), FIRST (0 to 20; 1), HALF (0 to 100; 50), DROP (0 to 100; 0)");
        TurnBids x = new TurnBids();
        int[] first = {1, 1, 50, 0};
        for (int setting = 0; setting < 4; setting++) due.is("count(" + setting + ")", x.count(setting), first[setting]);
        due.sentence("each with coins, 0 to 9999 (20 at first), and a limit, 0 to 99 (10 at first)");
        due.all("coins", Seen.players(x, 0), 20, 20, 20, 20, 20);
        due.all("limits", Seen.players(x, 1), 10, 10, 10, 10, 10);
        due.sentence("places 0 to 4 (at first the player p at the place p)");
        due.all("order", Seen.order(x), 0, 1, 2, 3, 4);
        due.all("places", Seen.players(x, 2), 0, 1, 2, 3, 4);
        due.sentence("5 prizes, each 0 to 99 coins (at first 5, 4, 3, 2 and 1)");
        for (int prize = 0; prize < 5; prize++) due.is("prizeOf(" + prize + ")", x.prizeOf(prize), 5 - prize);
    }

    private static void newAuctionKnowsNothingOfTheLast() {
        due.sentence("When it begins, nobody has bid or dropped, and it is the turn of the player at the place 0 of the order");
        TurnBids x = Games.underWay();
        x.bid(20);
        x.finish();
        due.is("begin()", x.begin(), 4);
        due.is("at(0)", x.at(0), 4);
        due.is("count(5)", x.count(5), 4);
        due.is("count(6)", x.count(6), NONE);
        due.is("count(7)", x.count(7), 1);
        due.is("count(8)", x.count(8), 31);
        due.all("bids", Seen.players(x, 3), NONE, NONE, NONE, NONE, NONE);
        due.all("places got", Seen.players(x, 4), NONE, NONE, NONE, NONE, NONE);
        due.is("bid(1), FIRST, not above the last auction's bids", x.bid(1), x.at(1));
    }

    private static void bidOfNoMoreThanItsCoins() {
        due.sentence("A bid is a number of coins that the player has");
        for (int coins : new int[] {1, 2, 19, 9997, 9998}) {
            due.is("bid of all of " + coins, begunWith(1, coins).bid(coins), 1);
            due.refused("bid of one more than " + coins, () -> begunWith(1, coins), o -> o.bid(coins + 1), NOT_POSSIBLE);
        }
        due.is("bid(9999) with 9999 coins", begunWith(1, 9999).bid(9999), 1);
        due.is("bid(0) without coins", begunWith(0, 0).bid(0), 1);
        due.refused("bid(1) without coins", () -> begunWith(0, 0), o -> o.bid(1), NOT_POSSIBLE);
        due.refused("bid(0) below FIRST without coins", () -> begunWith(1, 0), o -> o.bid(0), NOT_POSSIBLE);
        due.refused("bid(1) of FIRST without coins", () -> begunWith(1, 0), o -> o.bid(1), NOT_POSSIBLE);
    }

    private static TurnBids begunWith(int first, int coins) {
        TurnBids x = new TurnBids();
        x.set(TurnBids.FIRST, first);
        x.coins(0, coins);
        x.begin();
        return x;
    }

    private static void leastBidIsFirst() {
        due.sentence("the least bid, which is FIRST ahead of any bid of this auction");
        for (int first = 0; first <= 20; first++) {
            int f = first;
            due.is("count(7)", begunWith(f, 20).count(7), f);
            due.refused("bid below FIRST " + f, () -> begunWith(f, 20), o -> o.bid(f - 1), f == 0 ? BAD_VALUE : NOT_POSSIBLE);
            due.is("bid of FIRST " + f, begunWith(f, 20).bid(f), 1);
            TurnBids x = begunWith(f, 20);
            Games.drop(x, 3);
            due.is("count(7) behind three who have dropped", x.count(7), f);
            due.is("bid of FIRST " + f + " behind three who have dropped", x.bid(f), 4);
        }
        TurnBids x = begunWith(20, 20);
        x.set(TurnBids.FIRST, 3);
        due.is("count(7) with another FIRST", x.count(7), 3);
    }

    private static void leastBidBehindABid() {
        due.sentence("the highest bid so far and STEP, together, behind one");
        for (int step = 1; step <= 9; step++) {
            int s = step;
            due.is("count(7)", raisedBy(s).count(7), 7 + s);
            due.refused("bid of 7 and less than STEP " + s, () -> raisedBy(s), o -> o.bid(6 + s), NOT_POSSIBLE);
            due.is("bid of 7 and STEP " + s, raisedBy(s).bid(7 + s), 2);
        }
        TurnBids x = raisedBy(9);
        x.set(TurnBids.FIRST, 20);
        due.is("count(7), FIRST counts no more", x.count(7), 16);
        x.set(TurnBids.STEP, 1);
        due.is("count(7) with another STEP", x.count(7), 8);
        TurnBids y = Games.underWay();
        due.is("count(6), not the bid of 4 itself", y.count(6), 12);
        due.refused("bid(13)", Games::underWay, o -> o.bid(13), NOT_POSSIBLE);
        due.is("bid(14)", y.bid(14), 3);
    }

    private static TurnBids raisedBy(int step) {
        TurnBids x = new TurnBids();
        x.set(TurnBids.STEP, step);
        x.begin();
        x.bid(7);
        return x;
    }

    private static void leastBidBehindTheBidZero() {
        due.sentence("the highest bid so far and STEP, together, behind one");
        TurnBids x = begunWith(0, 0);
        due.is("bid(0)", x.bid(0), 1);
        due.is("count(6)", x.count(6), 0);
        due.is("count(7)", x.count(7), 1);
        due.is("player(0, 3)", x.player(0, 3), 0);
        due.is("bid(0) behind the bid 0", x.bid(0), NOT_POSSIBLE);
        due.is("bid(1) behind the bid 0", x.bid(1), 2);
    }

    private static void nobodyCanBidMore() {
        due.sentence("the highest bid so far and STEP, together, behind one");
        TurnBids x = new TurnBids();
        x.set(TurnBids.STEP, 9);
        for (int player = 0; player < 5; player++) x.coins(player, 9999);
        x.begin();
        due.is("bid(9990)", x.bid(9990), 1);
        due.is("count(7)", x.count(7), 9999);
        due.is("bid(9998)", x.bid(9998), NOT_POSSIBLE);
        due.is("bid(9999)", x.bid(9999), 2);
        due.is("count(7)", x.count(7), 10008);
        due.is("bid(9999)", x.bid(9999), NOT_POSSIBLE);
        due.is("bid(10008), the least bid, but no coins", x.bid(10008), BAD_VALUE);
        x.set(TurnBids.STEP, 1);
        due.is("count(7)", x.count(7), 10000);
        due.is("bid(9999)", x.bid(9999), NOT_POSSIBLE);
        due.is("act()", x.act(), 3);
        due.is("player(2, 4)", x.player(2, 4), 4);
    }

    private static void bidInPlaceOfAnEarlierOne() {
        due.sentence("It is the player's bid then, in place of an earlier one");
        TurnBids x = new TurnBids();
        x.set(TurnBids.HALF, 100);
        x.begin();
        x.bid(2);
        x.bid(3);
        Games.drop(x, 3);
        due.is("player(0, 3)", x.player(0, 3), 2);
        due.is("bid(9)", x.bid(9), 1);
        due.is("player(0, 3)", x.player(0, 3), 9);
        due.is("player(1, 3)", x.player(1, 3), 3);
        x.drop();
        due.is("player(0, 5), the later one alone is paid", x.player(0, 5), 9);
    }

    private static void placesFromTheLastOne() {
        due.sentence("gets the last place that no one got in this auction (4 first, then 3, and so on)");
        TurnBids x = new TurnBids();
        x.begin();
        x.bid(1);
        x.drop();
        due.all("places got", Seen.players(x, 4), NONE, 4, NONE, NONE, NONE);
        x.bid(2);
        x.drop();
        due.all("places got", Seen.players(x, 4), NONE, 4, NONE, 3, NONE);
        x.bid(3);
        x.drop();
        due.all("places got", Seen.players(x, 4), 2, 4, NONE, 3, NONE);
        x.drop();
        due.all("order, the last place but one is 1", Seen.order(x), 4, 2, 0, 3, 1);
        x.begin();
        x.drop();
        due.is("player(4, 4), 4 again in the next auction", x.player(4, 4), 4);
    }

    private static void dropIsPaidAtOnce() {
        due.sentence("pays DROP hundredths of its bid, rounded down");
        TurnBids x = new TurnBids();
        x.set(TurnBids.DROP, 100);
        x.begin();
        for (int bid = 16; bid <= 20; bid++) x.bid(bid);
        due.is("drop()", x.drop(), 1);
        due.is("player(0, 0)", x.player(0, 0), 4);
        due.is("player(0, 5)", x.player(0, 5), 16);
        due.is("count(4)", x.count(4), 1);
        x.set(TurnBids.DROP, 0);
        x.drop();
        due.is("player(1, 5), DROP of its own time", x.player(1, 5), 0);
        x.finish();
        due.is("player(0, 5), not once more at the end", x.player(0, 5), 16);
    }

    private static void dropIsRoundedDown() {
        due.sentence("pays DROP hundredths of its bid, rounded down");
        for (int bid : new int[] {0, 1, 2, 3, 50, 99, 100, 101, 199, 200, 9998}) {
            for (int share = 0; share <= 100; share++) {
                TurnBids x = Games.alike(9999, 0, 0);
                x.set(TurnBids.DROP, share);
                x.set(TurnBids.HALF, 0);
                x.begin();
                x.bid(bid);
                x.bid(bid + 1);
                Games.drop(x, 4);
                int paid = x.player(0, 5);
                String call = "player(0, 5) for a dropped " + bid + " at " + share;
                due.is(call + ", too much", 100 * paid <= bid * share ? 1 : 0, 1);
                due.is(call + ", too little", 100 * (paid + 1) > bid * share ? 1 : 0, 1);
                due.is("player(0, 0) then", x.player(0, 0), 9999 - paid);
            }
        }
    }

    private static void dropWithoutABid() {
        due.sentence("(nothing, if it has none)");
        TurnBids x = Games.alike(0, 0, 0);
        x.set(TurnBids.DROP, 100);
        x.begin();
        x.drop();
        due.is("player(0, 5)", x.player(0, 5), 0);
        due.is("player(0, 0)", x.player(0, 0), 0);
        due.is("player(0, 3)", x.player(0, 3), NONE);
        due.is("count(11)", x.count(11), 0);
    }

    private static void nextInTheRing() {
        due.sentence("it is the turn of the next player, in the ring of the order, who has not dropped");
        TurnBids x = new TurnBids();
        x.begin();
        for (int bid = 1; bid <= 4; bid++) due.is("bid(" + bid + ")", x.bid(bid), bid);
        due.is("bid(5), from the place 4 to the place 0", x.bid(5), 0);
        due.is("drop()", x.drop(), 1);
        due.is("drop()", x.drop(), 2);
        due.is("bid(6)", x.bid(6), 3);
        due.is("bid(7)", x.bid(7), 4);
        due.is("bid(8), from the place 4 over two who have dropped", x.bid(8), 2);
        due.is("bid(9)", x.bid(9), 3);
        due.is("drop()", x.drop(), 4);
        due.is("bid(10), over three who have dropped", x.bid(10), 2);
        due.is("bid(11), over one who has dropped", x.bid(11), 4);
        TurnBids y = new TurnBids();
        y.begin();
        y.bid(1);
        y.drop();
        y.drop();
        y.drop();
        due.is("bid(2) of the place 4, just the place 0 is left", y.bid(2), 0);
        due.is("bid(3) of the place 0, just the place 4 is left", y.bid(3), 4);
    }

    private static void ringOfTheNewOrder() {
        due.sentence("it is the turn of the next player, in the ring of the order, who has not dropped");
        TurnBids x = Games.between();
        due.all("order", Seen.order(x), 2, 4, 3, 1, 0);
        due.is("begin()", x.begin(), 2);
        due.is("bid(1)", x.bid(1), 4);
        due.is("bid(3)", x.bid(3), 3);
        due.is("bid(5)", x.bid(5), 1);
        due.is("drop()", x.drop(), 0);
        due.is("bid(7), from the place 4 to the place 0", x.bid(7), 2);
        due.is("drop()", x.drop(), 4);
        due.is("drop()", x.drop(), 3);
        due.is("bid(9), over the place 3", x.bid(9), 0);
        due.is("bid(11), from the place 4 over the places 0 and 1", x.bid(11), 3);
    }

    private static void endsWithOneLeft() {
        due.sentence("If just one is left who has not dropped, the auction ends at once: this one gets the place 0");
        TurnBids x = new TurnBids();
        x.begin();
        for (int dropped = 1; dropped <= 3; dropped++) {
            due.is("drop()", x.drop(), dropped);
            due.is("count(4), " + (5 - dropped) + " are left", x.count(4), 1);
            due.is("count(9)", x.count(9), 0);
        }
        due.is("drop(), one is left, and has had no turn", x.drop(), NONE);
        due.is("count(4)", x.count(4), 0);
        due.is("count(9)", x.count(9), 1);
        due.is("at(0)", x.at(0), 4);
        due.is("player(4, 7)", x.player(4, 7), 1);
        due.is("count(8)", x.count(8), 0);
        due.is("drop(), it has ended", x.drop(), NOT_POSSIBLE);
    }

    private static void lastIsRoundedUp() {
        due.sentence("pays HALF hundredths of its bid, rounded up");
        for (int bid : new int[] {0, 1, 2, 3, 50, 99, 100, 101, 199, 200, 9998, 9999}) {
            for (int share = 0; share <= 100; share++) {
                TurnBids x = Games.alike(9999, 0, 0);
                x.set(TurnBids.HALF, share);
                x.begin();
                x.bid(bid);
                Games.drop(x, 4);
                int paid = x.player(0, 5);
                String call = "player(0, 5) for a last " + bid + " at " + share;
                due.is(call + ", too little", 100 * paid >= bid * share ? 1 : 0, 1);
                due.is(call + ", too much", 100 * (paid - 1) < bid * share ? 1 : 0, 1);
                due.is("player(0, 0) then", x.player(0, 0), 9999 - paid);
            }
        }
    }

    private static void lastWithoutABid() {
        due.sentence("(nothing, if it has none)");
        TurnBids x = Games.alike(0, 0, 0);
        x.set(TurnBids.HALF, 100);
        x.begin();
        Games.drop(x, 4);
        due.is("player(4, 5)", x.player(4, 5), 0);
        due.is("player(4, 0)", x.player(4, 0), 0);
        due.is("count(11)", x.count(11), 0);
    }

    private static void greatestPrizeThatIsLeft() {
        due.sentence("by it, from the place 0 on, each player takes the greatest prize that is left");
        int[][] prizes = {{1, 2, 3, 4, 5}, {7, 7, 7, 7, 7}, {0, 0, 0, 0, 99}, {99, 0, 99, 0, 99}, {0, 0, 0, 0, 0}, {5, 9, 9, 5, 6}};
        int[][] taken = {{5, 4, 3, 2, 1}, {7, 7, 7, 7, 7}, {99, 0, 0, 0, 0}, {99, 99, 99, 0, 0}, {0, 0, 0, 0, 0}, {9, 9, 6, 5, 5}};
        for (int row = 0; row < prizes.length; row++) {
            TurnBids x = new TurnBids();
            for (int prize = 0; prize < 5; prize++) x.prize(prize, prizes[row][prize]);
            x.begin();
            Games.drop(x, 4);
            for (int place = 0; place < 5; place++) {
                due.is("prize of the place " + place, x.player(x.at(place), 6), taken[row][place]);
                due.is("coins of the place " + place, x.player(x.at(place), 0), 20 + taken[row][place]);
            }
            for (int prize = 0; prize < 5; prize++) due.is("prizeOf(" + prize + ") then", x.prizeOf(prize), prizes[row][prize]);
        }
    }

    private static void coinsUpToTheCeiling() {
        due.sentence("its coins become as many more (9999 at most)");
        for (int prize : new int[] {0, 1, 99}) {
            for (int coins = 9998 - prize; coins <= 9999; coins++) {
                TurnBids x = Games.alike(coins, 0, prize);
                x.begin();
                Games.drop(x, 4);
                int then = coins == 9998 - prize ? 9998 : 9999;
                due.all("coins " + coins + " and the prize " + prize, Seen.players(x, 0), then, then, then, then, then);
                due.is("count(10)", x.count(10), 5 * then);
                due.is("count(12)", x.count(12), 5 * prize);
            }
        }
    }

    private static void paidAheadOfTheCeiling() {
        due.sentence("pays HALF hundredths of its bid, rounded up");
        int[] prizes = {4, 5, 6, 99};
        int[] coins = {9998, 9999, 9999, 9999};
        for (int i = 0; i < prizes.length; i++) {
            TurnBids x = Games.alike(9999, 0, prizes[i]);
            x.begin();
            x.bid(10);
            Games.drop(x, 4);
            due.is("9999 less 5, and " + prizes[i], x.player(0, 0), coins[i]);
        }
    }

    private static void coinsDownToZero() {
        due.sentence("pays HALF hundredths of its bid, rounded up");
        TurnBids x = Games.alike(9999, 0, 0);
        x.set(TurnBids.HALF, 100);
        x.set(TurnBids.DROP, 100);
        x.coins(0, 9998);
        x.begin();
        x.bid(9998);
        x.bid(9999);
        Games.drop(x, 4);
        due.all("coins", Seen.players(x, 0), 0, 0, 9999, 9999, 9999);
        due.all("paid", Seen.players(x, 5), 9998, 9999, 0, 0, 0);
        x.finish();
        due.is("player(0, 0), never below 0", x.player(0, 0), 0);
    }

    private static void limitIsJustEnough() {
        due.sentence("it bids the least bid, if that is at most its limit, and it has as many coins; otherwise it drops");
        for (int limit : new int[] {7, 8, 9}) {
            TurnBids x = new TurnBids();
            x.limit(1, limit);
            x.begin();
            x.bid(7);
            due.is("act()", x.act(), 2);
            due.is("player(1, 3) with the limit " + limit, x.player(1, 3), limit < 8 ? NONE : 8);
            due.is("player(1, 4) with the limit " + limit, x.player(1, 4), limit < 8 ? 4 : NONE);
        }
    }

    private static void coinsAreJustEnough() {
        due.sentence("it bids the least bid, if that is at most its limit, and it has as many coins; otherwise it drops");
        for (int coins : new int[] {0, 7, 8, 9}) {
            TurnBids x = new TurnBids();
            x.coins(1, coins);
            x.begin();
            x.bid(7);
            due.is("act()", x.act(), 2);
            due.is("player(1, 3) with " + coins + " coins", x.player(1, 3), coins < 8 ? NONE : 8);
            due.is("player(1, 4) with " + coins + " coins", x.player(1, 4), coins < 8 ? 4 : NONE);
        }
    }

    private static void limitsAtTheirEnds() {
        due.sentence("it bids the least bid, if that is at most its limit, and it has as many coins; otherwise it drops");
        TurnBids x = Games.alike(9999, 99, 0);
        x.begin();
        x.bid(98);
        due.is("act(), 99 is at most 99", x.act(), 2);
        due.is("player(1, 3)", x.player(1, 3), 99);
        x.act();
        due.is("player(2, 4), 100 is above 99", x.player(2, 4), 4);
        TurnBids y = Games.alike(0, 0, 0);
        y.begin();
        due.is("act(), 0 is at most 0", y.act(), 1);
        due.is("player(0, 3)", y.player(0, 3), 0);
        y.act();
        due.is("player(1, 4), 1 is above 0", y.player(1, 4), 4);
    }

    private static void theLastCallIsLikeTheFirst() {
        due.sentence("An object is used for at most 512 calls after it has been made");
        TurnBids x = new TurnBids();
        for (int call = 1; call <= 508; call++) x.limit(0, call % 100);
        due.is("call 509, finish()", x.finish(), 4);
        due.is("call 510, undo()", x.undo(), 5);
        due.is("call 511, limit(0, 99)", x.limit(0, 99), 8);
        due.is("call 512, count(15)", x.count(15), 6);
        TurnBids y = new TurnBids();
        for (int call = 1; call <= 511; call++) y.coinsBehind(0, 100);
        due.is("call 512, coinsBehind(0, 100)", y.coinsBehind(0, 100), new TurnBids().coinsBehind(0, 100));
        TurnBids z = new TurnBids();
        for (int call = 1; call <= 511; call++) z.finish();
        due.is("call 512, count(9)", z.count(9), 511);
        TurnBids w = new TurnBids();
        for (int call = 1; call <= 511; call++) w.count(10);
        due.is("call 512, count(10)", w.count(10), 100);
    }
}

import java.util.List;
import java.util.function.Supplier;
import java.util.function.ToIntFunction;

/** The boundary cases that the promises 16 to 20 name: ifFinished, bestLimit, coinsBehind, richest, movesLeft. */
public final class EdgesOfWhatIfTest {
    private static final Due due = new Due("EdgesOfWhatIfTest");
    private static final int NO_SUCH = TurnBids.NO_SUCH, BAD_VALUE = TurnBids.BAD_VALUE, NOT_POSSIBLE = TurnBids.NOT_POSSIBLE;

    public static void main(String[] args) {
        ifFinishedBeyond();
        ifFinishedWithoutAnAuction();
        ifFinishedOfOneWhoHasDropped();
        ifFinishedAtTheEnds();
        bestLimitBeyond();
        bestLimitIsTheLeastOfSeveral();
        bestLimitAtTheEnds();
        bestLimitBetweenTheEnds();
        bestLimitOfOneWhoHasDropped();
        bestLimitWithALoss();
        coinsBehindBeyond();
        coinsBehindOneRoundAndAHundred();
        coinsBehindAnAuctionUnderWay();
        coinsBehindAtTheEnds();
        richestBeyond();
        richestOfSeveral();
        richestThenAndNotNow();
        richestBehindOneRoundAndAHundred();
        movesLeftFewestAndMost();
        movesLeftWithoutAnAuction();
        nothingChanges();
        due.end();
    }

    private static void ifFinishedBeyond() {
        due.sentence("NO_SUCH if there is no such player; BAD_VALUE if what is out of range");
        for (int player : Beyond.range(0, 4)) {
            due.refusedEverywhere("ifFinished(" + player + ", 0)", o -> o.ifFinished(player, 0), NO_SUCH);
            due.refusedEverywhere("ifFinished(" + player + ", 3)", o -> o.ifFinished(player, 3), NO_SUCH);
        }
        for (int what : Beyond.range(0, 3)) {
            due.refusedEverywhere("ifFinished(0, " + what + ")", o -> o.ifFinished(0, what), BAD_VALUE);
            due.refusedEverywhere("ifFinished(4, " + what + ")", o -> o.ifFinished(4, what), BAD_VALUE);
        }
    }

    private static void ifFinishedAnswers(TurnBids x, int player, int... answers) {
        for (int what = 0; what < 4; what++) due.is("ifFinished(" + player + ", " + what + ")", x.ifFinished(player, what), answers[what]);
    }

    private static void ifFinishedWithoutAnAuction() {
        due.sentence("Tells what finish() would bring to a player");
        TurnBids x = new TurnBids();
        ifFinishedAnswers(x, 0, 4, 0, 1, 1);
        ifFinishedAnswers(x, 4, 0, 5, 5, 0);
        TurnBids y = Games.between();
        ifFinishedAnswers(y, 2, 0, 5, 33, 28);
        due.is("count(4)", y.count(4), 0);
        due.is("count(9)", y.count(9), 1);
    }

    private static void ifFinishedOfOneWhoHasDropped() {
        due.sentence("0 its place then, 1 what it would pay, from now on");
        TurnBids x = Games.underWay();
        ifFinishedAnswers(x, 1, 4, 0, 1, 1);
        ifFinishedAnswers(x, 2, 3, 0, 2, 2);
        ifFinishedAnswers(x, 4, 2, 1, 3, 2);
        ifFinishedAnswers(x, 3, 1, 2, 5, 3);
        ifFinishedAnswers(x, 0, 0, 6, 33, 27);
    }

    private static void ifFinishedAtTheEnds() {
        due.sentence("2 the prize that it would take, 3 its coins then, less those of now");
        TurnBids x = Games.alike(9999, 0, 99);
        x.set(TurnBids.HALF, 100);
        x.begin();
        x.bid(9999);
        ifFinishedAnswers(x, 0, 0, 9999, 99, -9900);
        ifFinishedAnswers(x, 1, 4, 0, 99, 0);
        TurnBids y = Games.alike(9950, 0, 99);
        ifFinishedAnswers(y, 4, 1, 0, 99, 49);
        ifFinishedAnswers(y, 0, 0, 0, 99, 49);
        TurnBids z = Games.alike(0, 99, 0);
        ifFinishedAnswers(z, 0, 0, 0, 0, 0);
        ifFinishedAnswers(z, 1, 4, 0, 0, 0);
    }

    private static void bestLimitBeyond() {
        due.sentence("NO_SUCH if there is no such player; BAD_VALUE if what is neither 0 nor 1");
        for (int player : Beyond.range(0, 4)) {
            due.refusedEverywhere("bestLimit(" + player + ", 0)", o -> o.bestLimit(player, 0), NO_SUCH);
            due.refusedEverywhere("bestLimit(" + player + ", 1)", o -> o.bestLimit(player, 1), NO_SUCH);
        }
        for (int what : Beyond.range(0, 1)) {
            due.refusedEverywhere("bestLimit(0, " + what + ")", o -> o.bestLimit(0, what), BAD_VALUE);
            due.refusedEverywhere("bestLimit(4, " + what + ")", o -> o.bestLimit(4, what), BAD_VALUE);
        }
    }

    private static void bestLimitIsTheLeastOfSeveral() {
        due.sentence("of several the least");
        TurnBids x = Games.alike(20, 0, 7);
        x.set(TurnBids.HALF, 0);
        for (int player = 0; player < 5; player++) {
            due.is("bestLimit(" + player + ", 0), all limits bring as much", x.bestLimit(player, 0), 0);
            due.is("bestLimit(" + player + ", 1)", x.bestLimit(player, 1), 7);
        }
        TurnBids y = Games.alike(20, 5, 7);
        y.set(TurnBids.HALF, 0);
        y.prize(0, 60);
        y.limit(3, 50);
        due.is("bestLimit(3, 0), not the limit that it has", y.bestLimit(3, 0), 6);
        due.is("bestLimit(3, 1)", y.bestLimit(3, 1), 60);
        due.is("player(3, 1)", y.player(3, 1), 50);
    }

    private static void bestLimitAtTheEnds() {
        due.sentence("Finds the limit of a player with which finish() would bring it the most coins");
        for (int limit = 0; limit < 99; limit++) {
            TurnBids x = Games.alike(9000, 0, 0);
            x.set(TurnBids.HALF, 0);
            x.prize(2, 1);
            x.begin();
            x.bid(limit);
            due.is("bestLimit(1, 0) behind the bid " + limit, x.bestLimit(1, 0), limit + 1);
            due.is("bestLimit(1, 1) behind the bid " + limit, x.bestLimit(1, 1), 1);
        }
        TurnBids x = Games.alike(9000, 0, 0);
        x.set(TurnBids.HALF, 0);
        x.prize(2, 1);
        x.begin();
        x.bid(99);
        due.is("bestLimit(1, 0) behind the bid 99, no limit is enough", x.bestLimit(1, 0), 0);
        due.is("bestLimit(1, 1)", x.bestLimit(1, 1), 0);
    }

    private static void bestLimitBetweenTheEnds() {
        due.sentence("Finds the limit of a player with which finish() would bring it the most coins");
        TurnBids x = new TurnBids();
        x.set(TurnBids.DROP, 100);
        x.coins(0, 90);
        x.coins(4, 9999);
        x.limit(4, 99);
        x.prize(1, 60);
        x.prize(0, 99);
        due.is("bestLimit(0, 0), the second prize is cheap", x.bestLimit(0, 0), 11);
        due.is("bestLimit(0, 1)", x.bestLimit(0, 1), 49);
        TurnBids y = new TurnBids();
        y.set(TurnBids.DROP, 100);
        y.prize(0, 0);
        y.prize(1, 0);
        due.is("bestLimit(0, 0), each bid is lost", y.bestLimit(0, 0), 0);
        due.is("bestLimit(0, 1)", y.bestLimit(0, 1), 0);
    }

    private static void bestLimitOfOneWhoHasDropped() {
        due.sentence("of several the least");
        TurnBids x = Games.underWay();
        due.is("bestLimit(2, 0)", x.bestLimit(2, 0), 0);
        due.is("bestLimit(2, 1)", x.bestLimit(2, 1), 2);
    }

    private static void bestLimitWithALoss() {
        due.sentence("1 its coins then, less those of now");
        TurnBids x = Games.alike(9999, 0, 0);
        x.set(TurnBids.HALF, 100);
        x.begin();
        x.bid(9999);
        due.is("bestLimit(0, 0)", x.bestLimit(0, 0), 0);
        due.is("bestLimit(0, 1), all coins are lost", x.bestLimit(0, 1), -9999);
        TurnBids y = Games.alike(9999, 0, 99);
        due.is("bestLimit(0, 1), there is no room for more", y.bestLimit(0, 1), 0);
    }

    private static void coinsBehindBeyond() {
        due.sentence("NO_SUCH if there is no such player; BAD_VALUE if rounds is out of range");
        for (int player : Beyond.range(0, 4)) {
            due.refusedEverywhere("coinsBehind(" + player + ", 1)", o -> o.coinsBehind(player, 1), NO_SUCH);
        }
        for (int rounds : Beyond.range(1, 100)) {
            due.refusedEverywhere("coinsBehind(0, " + rounds + ")", o -> o.coinsBehind(0, rounds), BAD_VALUE);
            due.refusedEverywhere("coinsBehind(4, " + rounds + ")", o -> o.coinsBehind(4, rounds), BAD_VALUE);
        }
    }

    private static void coinsBehindOneRoundAndAHundred() {
        due.sentence("rounds: 1 to 100");
        TurnBids x = new TurnBids();
        TurnBids then = new TurnBids();
        then.finish();
        for (int player = 0; player < 5; player++) due.is("coinsBehind(" + player + ", 1)", x.coinsBehind(player, 1), then.player(player, 0));
        for (int round = 2; round <= 99; round++) then.finish();
        for (int player = 0; player < 5; player++) due.is("coinsBehind(" + player + ", 99)", x.coinsBehind(player, 99), then.player(player, 0));
        then.finish();
        for (int player = 0; player < 5; player++) due.is("coinsBehind(" + player + ", 100)", x.coinsBehind(player, 100), then.player(player, 0));
    }

    private static void coinsBehindAnAuctionUnderWay() {
        due.sentence("Tells the coins of a player behind some rounds, all by finish()");
        TurnBids x = Games.underWay();
        TurnBids then = Games.underWay();
        then.finish();
        due.is("count(9), the auction that is under way is the first of them", then.count(9), 2);
        for (int player = 0; player < 5; player++) due.is("coinsBehind(" + player + ", 1)", x.coinsBehind(player, 1), then.player(player, 0));
        then.finish();
        for (int player = 0; player < 5; player++) due.is("coinsBehind(" + player + ", 2)", x.coinsBehind(player, 2), then.player(player, 0));
    }

    private static void coinsBehindAtTheEnds() {
        due.sentence("Returns the coins");
        TurnBids x = Games.alike(0, 99, 0);
        due.is("coinsBehind(0, 100)", x.coinsBehind(0, 100), 0);
        TurnBids y = Games.alike(99, 0, 99);
        for (int rounds : new int[] {1, 99, 100}) {
            due.is("coinsBehind(4, " + rounds + ")", y.coinsBehind(4, rounds), 99 * (rounds + 1));
        }
        y.coins(4, 198);
        due.is("coinsBehind(4, 98)", y.coinsBehind(4, 98), 9900);
        due.is("coinsBehind(4, 99)", y.coinsBehind(4, 99), 9999);
        due.is("coinsBehind(4, 100), no more than 9999", y.coinsBehind(4, 100), 9999);
    }

    private static void richestBeyond() {
        due.sentence("BAD_VALUE if rounds is out of range");
        for (int rounds : Beyond.range(1, 100)) {
            due.refusedEverywhere("richest(" + rounds + ")", o -> o.richest(rounds), BAD_VALUE);
        }
    }

    private static void richestOfSeveral() {
        due.sentence("of several the one whose place is the lowest then");
        TurnBids x = noOneBids();
        for (int rounds = 1; rounds <= 100; rounds++) {
            due.is("richest(" + rounds + "), all alike", x.richest(rounds), rounds % 2 == 1 ? 4 : 0);
        }
        int[][] pairs = {{0, 1}, {0, 4}, {1, 3}, {2, 3}, {3, 4}};
        for (int[] pair : pairs) {
            TurnBids y = noOneBids();
            y.coins(pair[0], 21);
            y.coins(pair[1], 21);
            due.is("richest(1) of " + pair[0] + " and " + pair[1], y.richest(1), pair[1]);
            due.is("richest(2) of " + pair[0] + " and " + pair[1], y.richest(2), pair[0]);
            y.coins(pair[0], 22);
            due.is("richest(1), one coin more", y.richest(1), pair[0]);
            y.coins(pair[1], 23);
            due.is("richest(2), one coin more", y.richest(2), pair[1]);
        }
    }

    private static void richestThenAndNotNow() {
        due.sentence("Finds the player who has the most coins behind some rounds");
        for (int player = 0; player < 4; player++) {
            TurnBids x = noOneBids();
            x.set(TurnBids.HALF, 100);
            x.coins(player, 25);
            x.limit(player, 20);
            x.set(TurnBids.FIRST, 5);
            due.is("richest(1), the richest one pays 5 of 25 coins", x.richest(1), player);
            x.set(TurnBids.FIRST, 6);
            due.is("player(" + player + ", 0)", x.player(player, 0), 25);
            due.is("richest(1), the richest one pays 6 of 25 coins", x.richest(1), 4);
        }
        TurnBids y = noOneBids();
        y.coins(4, 25);
        y.limit(4, 20);
        due.is("richest(1), 4 is left ahead of its turn, and pays nothing", y.richest(1), 4);
        y.set(TurnBids.HALF, 100);
        y.limit(3, 2);
        due.is("richest(1), 4 pays 2 of 25 coins", y.richest(1), 4);
        y.set(TurnBids.STEP, 5);
        due.is("richest(1), 4 pays 6 of 25 coins, and 3 has the place behind it", y.richest(1), 3);
    }

    /** Each round turns the order of all who have the same coins around. */
    private static TurnBids noOneBids() {
        TurnBids x = Games.alike(20, 0, 0);
        x.set(TurnBids.FIRST, 1);
        return x;
    }

    private static void richestBehindOneRoundAndAHundred() {
        due.sentence("rounds: 1 to 100");
        TurnBids x = noOneBids();
        x.coins(0, 21);
        x.coins(4, 21);
        due.is("richest(1)", x.richest(1), 4);
        due.is("richest(99)", x.richest(99), 4);
        due.is("richest(100)", x.richest(100), 0);
        TurnBids y = Games.underWay();
        TurnBids then = Games.underWay();
        then.finish();
        int most = 0;
        for (int coins : Seen.players(then, 0)) most = Math.max(most, coins);
        due.is("richest(1), the auction that is under way is the round", then.player(y.richest(1), 0), most);
    }

    private static void movesLeftFewestAndMost() {
        due.sentence("Tells in how many moves, each by act(), the auction that is under way would end");
        TurnBids x = new TurnBids();
        x.begin();
        Games.drop(x, 3);
        due.is("movesLeft(), 3 and 4 bid up to 10", x.movesLeft(), 11);
        x.limit(3, 0);
        due.is("movesLeft(), just a drop", x.movesLeft(), 1);
        x.act();
        due.is("count(4)", x.count(4), 0);
        TurnBids y = Games.alike(9999, 99, 0);
        y.begin();
        due.is("movesLeft(), a hundred bids and four drops", y.movesLeft(), 104);
        for (int left = 104; left > 0; left--) {
            due.is("movesLeft()", y.movesLeft(), left);
            y.act();
        }
        due.is("count(4)", y.count(4), 0);
    }

    private static void movesLeftWithoutAnAuction() {
        due.sentence("NOT_POSSIBLE if none is under way");
        due.refused("movesLeft() on a new object", TurnBids::new, TurnBids::movesLeft, NOT_POSSIBLE);
        due.refused("movesLeft() between two", Games::between, TurnBids::movesLeft, NOT_POSSIBLE);
    }

    private static void nothingChanges() {
        due.sentence("what if; nothing changes");
        for (int player = 0; player < 5; player += 2) {
            int p = player;
            for (int what = 0; what < 4; what++) {
                int w = what;
                onlyTellsTwice("ifFinished(" + p + ", " + w + ")", o -> o.ifFinished(p, w));
                if (w < 2) onlyTellsTwice("bestLimit(" + p + ", " + w + ")", o -> o.bestLimit(p, w));
            }
            onlyTellsTwice("coinsBehind(" + p + ", 1)", o -> o.coinsBehind(p, 1));
            onlyTellsTwice("coinsBehind(" + p + ", 100)", o -> o.coinsBehind(p, 100));
        }
        onlyTellsTwice("richest(1)", o -> o.richest(1));
        onlyTellsTwice("richest(100)", o -> o.richest(100));
        onlyTellsTwice("movesLeft()", TurnBids::movesLeft);
    }

    private static void onlyTellsTwice(String name, ToIntFunction<TurnBids> call) {
        for (Supplier<TurnBids> maker : List.<Supplier<TurnBids>>of(Games::between, Games::underWay)) {
            TurnBids x = maker.get();
            int answer = call.applyAsInt(x);
            due.is(name + " once more", call.applyAsInt(x), answer);
            due.onlyTells(name, maker, call, answer);
        }
    }
}

import java.util.function.Supplier;

/** Promises 16 to 20: ifFinished, bestLimit, coinsBehind, richest, movesLeft. */
public final class WhatIfTest {
    private static final Due due = new Due("WhatIfTest");

    public static void main(String[] args) {
        ifFinished();
        ifFinishedIsWhatFinishBrings();
        ifFinishedUnderTheCeiling();
        bestLimit();
        bestLimitIsTheLeastOfTheBest();
        coinsBehind();
        richest();
        movesLeft();
        nothingChanges();
        refusals();
        due.end();
    }

    private static void ifFinished() {
        TurnBids x = new TurnBids();
        int[][] answers = {{4, 0, 1, 1}, {3, 0, 2, 2}, {2, 0, 3, 3}, {1, 0, 4, 4}, {0, 5, 5, 0}};
        for (int player = 0; player < 5; player++) {
            for (int what = 0; what < 4; what++) {
                due.is("ifFinished(" + player + ", " + what + ")", x.ifFinished(player, what), answers[player][what]);
            }
        }
        TurnBids y = new TurnBids();
        y.set(TurnBids.DROP, 100);
        y.begin();
        for (int bid = 3; bid < 8; bid++) y.bid(bid);
        y.drop();
        due.is("ifFinished(0, 1), it has paid already", y.ifFinished(0, 1), 0);
        due.is("ifFinished(0, 3)", y.ifFinished(0, 3), 1);
        due.is("ifFinished(1, 1)", y.ifFinished(1, 1), 8);
    }

    private static void ifFinishedIsWhatFinishBrings() {
        for (int moves = 0; moves < 14; moves++) {
            TurnBids x = midway(moves);
            TurnBids then = midway(moves);
            then.finish();
            for (int player = 0; player < 5; player++) {
                String call = "behind " + moves + " moves ifFinished(" + player + ", ..)";
                due.is(call, x.ifFinished(player, 0), then.player(player, 2));
                due.is(call, x.ifFinished(player, 1), then.player(player, 5) - x.player(player, 5));
                due.is(call, x.ifFinished(player, 2), then.player(player, 6) - x.player(player, 6));
                due.is(call, x.ifFinished(player, 3), then.player(player, 0) - x.player(player, 0));
            }
        }
    }

    private static void ifFinishedUnderTheCeiling() {
        TurnBids x = new TurnBids();
        x.prize(3, 99);
        x.coins(4, 9990);
        due.is("ifFinished(4, 1)", x.ifFinished(4, 1), 5);
        due.is("ifFinished(4, 2)", x.ifFinished(4, 2), 99);
        due.is("ifFinished(4, 3)", x.ifFinished(4, 3), 9);
    }

    private static void bestLimit() {
        TurnBids x = new TurnBids();
        due.is("bestLimit(0, 0)", x.bestLimit(0, 0), 0);
        due.is("bestLimit(0, 1)", x.bestLimit(0, 1), 1);
        x.prize(0, 50);
        due.is("bestLimit(0, 0) for a great prize", x.bestLimit(0, 0), 11);
        due.is("bestLimit(0, 1) for a great prize", x.bestLimit(0, 1), 44);
        TurnBids y = new TurnBids();
        for (int prize = 0; prize < 5; prize++) y.prize(prize, 0);
        y.set(TurnBids.DROP, 100);
        y.begin();
        y.bid(5);
        due.is("bestLimit(0, 0) when all lose", y.bestLimit(0, 0), 0);
        due.is("bestLimit(0, 1) when all lose", y.bestLimit(0, 1), -5);
        TurnBids z = new TurnBids();
        z.coins(4, 9999);
        z.coins(3, 9999);
        z.limit(3, 98);
        z.prize(0, 99);
        due.is("bestLimit(4, 0) with all coins", z.bestLimit(4, 0), 0);
        z.coins(4, 9900);
        z.set(TurnBids.FIRST, 2);
        due.is("bestLimit(4, 0), the greatest limit", z.bestLimit(4, 0), 99);
        due.is("bestLimit(4, 1)", z.bestLimit(4, 1), 49);
    }

    private static void bestLimitIsTheLeastOfTheBest() {
        for (int moves = 0; moves < 14; moves++) {
            for (int player = 0; player < 5; player++) {
                int best = 0;
                int most = Integer.MIN_VALUE;
                for (int limit = 0; limit < 100; limit++) {
                    TurnBids then = midway(moves);
                    then.limit(player, limit);
                    then.finish();
                    if (then.player(player, 0) <= most) continue;
                    most = then.player(player, 0);
                    best = limit;
                }
                TurnBids x = midway(moves);
                String call = "behind " + moves + " moves bestLimit(" + player + ", ..)";
                due.is(call, x.bestLimit(player, 0), best);
                due.is(call, x.bestLimit(player, 1), most - x.player(player, 0));
            }
        }
    }

    private static void coinsBehind() {
        TurnBids first = new TurnBids();
        int[] coins = {21, 22, 23, 24, 20};
        for (int player = 0; player < 5; player++) {
            due.is("coinsBehind(" + player + ", 1)", first.coinsBehind(player, 1), coins[player]);
        }
        for (int moves = 0; moves < 14; moves++) {
            TurnBids x = midway(moves);
            TurnBids then = midway(moves);
            for (int rounds = 1; rounds <= 100; rounds++) {
                then.finish();
                int player = rounds % 5;
                String call = "behind " + moves + " moves coinsBehind(" + player + ", " + rounds + ")";
                due.is(call, x.coinsBehind(player, rounds), then.player(player, 0));
            }
        }
    }

    private static void richest() {
        TurnBids x = new TurnBids();
        due.is("richest(1)", x.richest(1), 3);
        for (int player = 0; player < 5; player++) x.limit(player, 0);
        for (int prize = 0; prize < 5; prize++) x.prize(prize, 0);
        due.is("richest(1), all alike", x.richest(1), 4);
        due.is("richest(2), all alike", x.richest(2), 0);
        x.coins(2, 21);
        due.is("richest(99)", x.richest(99), 2);
        x.coins(1, 21);
        due.is("richest(99), two alike", x.richest(99), 2);
        due.is("richest(100), two alike", x.richest(100), 1);
        for (int moves = 0; moves < 14; moves++) {
            TurnBids y = midway(moves);
            TurnBids then = midway(moves);
            for (int rounds = 1; rounds <= 25; rounds++) {
                then.finish();
                int richest = then.at(0);
                for (int place = 1; place < 5; place++) {
                    if (then.player(then.at(place), 0) > then.player(richest, 0)) richest = then.at(place);
                }
                due.is("behind " + moves + " moves richest(" + rounds + ")", y.richest(rounds), richest);
            }
        }
    }

    private static void movesLeft() {
        TurnBids x = new TurnBids();
        x.begin();
        for (int left = 14; left > 0; left--) {
            due.is("movesLeft()", x.movesLeft(), left);
            x.act();
        }
        due.is("movesLeft()", x.movesLeft(), TurnBids.NOT_POSSIBLE);
        TurnBids y = new TurnBids();
        y.set(TurnBids.FIRST, 0);
        for (int player = 0; player < 5; player++) y.limit(player, 99);
        for (int player = 0; player < 5; player++) y.coins(player, 9999);
        y.begin();
        due.is("movesLeft(), the longest", y.movesLeft(), 104);
        y.bid(9999);
        due.is("movesLeft() behind the highest bid", y.movesLeft(), 4);
    }

    private static void nothingChanges() {
        Supplier<TurnBids> made = () -> midway(6);
        due.onlyTells("ifFinished(0, 0)", made, o -> o.ifFinished(0, 0), midway(6).ifFinished(0, 0));
        due.onlyTells("bestLimit(0, 1)", made, o -> o.bestLimit(0, 1), midway(6).bestLimit(0, 1));
        due.onlyTells("coinsBehind(3, 100)", made, o -> o.coinsBehind(3, 100), midway(6).coinsBehind(3, 100));
        due.onlyTells("richest(100)", made, o -> o.richest(100), midway(6).richest(100));
        due.onlyTells("movesLeft()", made, TurnBids::movesLeft, midway(6).movesLeft());
        due.is("movesLeft() twice", twice(midway(6)), midway(6).movesLeft());
    }

    private static int twice(TurnBids x) {
        x.movesLeft();
        return x.movesLeft();
    }

    private static void refusals() {
        Supplier<TurnBids> made = () -> midway(5);
        due.refused("ifFinished(-1, -1)", made, o -> o.ifFinished(-1, -1), TurnBids.NO_SUCH);
        due.refused("ifFinished(5, 0)", made, o -> o.ifFinished(5, 0), TurnBids.NO_SUCH);
        due.refused("ifFinished(0, -1)", made, o -> o.ifFinished(0, -1), TurnBids.BAD_VALUE);
        due.refused("ifFinished(0, 4)", made, o -> o.ifFinished(0, 4), TurnBids.BAD_VALUE);
        due.refused("bestLimit(-1, -1)", made, o -> o.bestLimit(-1, -1), TurnBids.NO_SUCH);
        due.refused("bestLimit(5, 0)", made, o -> o.bestLimit(5, 0), TurnBids.NO_SUCH);
        due.refused("bestLimit(0, -1)", made, o -> o.bestLimit(0, -1), TurnBids.BAD_VALUE);
        due.refused("bestLimit(0, 2)", made, o -> o.bestLimit(0, 2), TurnBids.BAD_VALUE);
        due.refused("coinsBehind(-1, 0)", made, o -> o.coinsBehind(-1, 0), TurnBids.NO_SUCH);
        due.refused("coinsBehind(5, 1)", made, o -> o.coinsBehind(5, 1), TurnBids.NO_SUCH);
        due.refused("coinsBehind(0, 0)", made, o -> o.coinsBehind(0, 0), TurnBids.BAD_VALUE);
        due.refused("coinsBehind(0, 101)", made, o -> o.coinsBehind(0, 101), TurnBids.BAD_VALUE);
        due.refused("richest(0)", made, o -> o.richest(0), TurnBids.BAD_VALUE);
        due.refused("richest(101)", made, o -> o.richest(101), TurnBids.BAD_VALUE);
        due.refused("movesLeft()", () -> midway(0), TurnBids::movesLeft, TurnBids.NOT_POSSIBLE);
    }

    /** Some moves into the second round of a game in which limits, coins and shares differ. */
    private static TurnBids midway(int moves) {
        TurnBids x = new TurnBids();
        x.save(0);
        int[] limits = {12, 3, 30, 17, 0};
        int[] coins = {9, 40, 26, 9995, 15};
        for (int player = 0; player < 5; player++) x.limit(player, limits[player]);
        for (int player = 0; player < 5; player++) x.coins(player, coins[player]);
        x.set(TurnBids.DROP, 30);
        x.set(TurnBids.HALF, 70);
        x.prize(1, 24);
        x.prize(4, 11);
        x.finish();
        if (moves > 0) x.begin();
        for (int move = 1; move < moves; move++) {
            if (move == 3) x.bid(x.count(7) + 4);
            else x.act();
        }
        return x;
    }
}

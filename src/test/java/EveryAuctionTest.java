import java.util.ArrayList;
import java.util.List;

/** Every auction that a few coins allow, one move behind the other, held against the model at each step. */
public final class EveryAuctionTest {
    private static final int DROP = -1, ACT = -2, MOST_BID = 10;

    private final Due due = new Due("EveryAuctionTest");
    private final List<Integer> moves = new ArrayList<>();
    private int[] settings;
    private int[] coins;
    private int[] limits;
    private int states = 0;

    public static void main(String[] args) {
        EveryAuctionTest test = new EveryAuctionTest();
        test.allWith(new int[] {1, 0, 50, 0}, new int[] {2, 2, 2, 2, 2}, new int[] {2, 2, 2, 2, 2});
        test.allWith(new int[] {1, 1, 50, 50}, new int[] {4, 0, 3, 1, 4}, new int[] {0, 5, 2, 9, 3});
        test.allWith(new int[] {2, 0, 1, 99}, new int[] {0, 5, 4, 6, 2}, new int[] {7, 4, 0, 1, 99});
        test.allWith(new int[] {3, 2, 100, 100}, new int[] {9, 9998, 8, 2, 5}, new int[] {4, 4, 4, 4, 4});
        test.due.is("there are many auctions: " + test.states, test.states > 2000 ? 1 : 0, 1);
        test.due.end();
    }

    private void allWith(int[] settings, int[] coins, int[] limits) {
        this.settings = settings;
        this.coins = coins;
        this.limits = limits;
        everyMoveBehind();
    }

    /* One player has many coins; the bids above the tenth would only be more of the same. */
    private void everyMoveBehind() {
        TurnBids x = new TurnBids();
        Model model = new Model();
        play(x, model);
        boolean ended = model.count(4) == 0;
        int least = model.count(7);
        int most = ended ? 0 : Math.min(MOST_BID, model.player(model.count(5), 0));
        compare(x, model);
        for (int move = ACT; move <= most && !ended; move++) {
            if (move >= 0 && move < least) continue;
            moves.add(move);
            everyMoveBehind();
            moves.remove(moves.size() - 1);
        }
    }

    private void play(TurnBids x, Model model) {
        for (int setting = 0; setting < 4; setting++) due.is("set", x.set(setting, settings[setting]), model.set(setting, settings[setting]));
        for (int player = 0; player < 5; player++) {
            due.is("coins", x.coins(player, coins[player]), model.coins(player, coins[player]));
            due.is("limit", x.limit(player, limits[player]), model.limit(player, limits[player]));
        }
        due.is("prize", x.prize(3, 4), model.prize(3, 4));
        due.is("begin()", x.begin(), model.begin());
        for (int move : moves) {
            if (move == DROP) due.is("drop() of " + moves, x.drop(), model.drop());
            else if (move == ACT) due.is("act() of " + moves, x.act(), model.act());
            else due.is("bid(" + move + ") of " + moves, x.bid(move), model.bid(move));
        }
    }

    private void compare(TurnBids x, Model model) {
        states++;
        String behind = " behind " + moves;
        int tooLow = model.count(7) - 1;
        if (tooLow >= 0) due.is("bid(" + tooLow + ")" + behind, x.bid(tooLow), model.bid(tooLow));
        int tooMuch = model.count(4) == 0 ? 0 : model.player(model.count(5), 0) + 1;
        due.is("bid(" + tooMuch + ")" + behind, x.bid(tooMuch), model.bid(tooMuch));
        compareWhatThereIs(x, model, behind);
        for (int player = 0; player < 5; player++) {
            for (int what = 0; what < 4; what++) {
                due.is("ifFinished(" + player + ", " + what + ")" + behind, x.ifFinished(player, what), model.ifFinished(player, what));
            }
            due.is("coinsBehind(" + player + ", 3)" + behind, x.coinsBehind(player, 3), model.coinsBehind(player, 3));
        }
        int player = states % 5;
        due.is("bestLimit(" + player + ", 0)" + behind, x.bestLimit(player, 0), model.bestLimit(player, 0));
        due.is("bestLimit(" + player + ", 1)" + behind, x.bestLimit(player, 1), model.bestLimit(player, 1));
        due.is("richest(2)" + behind, x.richest(2), model.richest(2));
        due.is("movesLeft()" + behind, x.movesLeft(), model.movesLeft());
        due.is("undo()" + behind, x.undo(), model.undo());
        compareWhatThereIs(x, model, " behind undo() of the last of " + moves);
        due.is("finish()" + behind, x.finish(), model.finish());
        compareWhatThereIs(x, model, " when all is finished behind " + moves);
    }

    private void compareWhatThereIs(TurnBids x, Model model, String behind) {
        for (int player = 0; player < 5; player++) {
            for (int what = 0; what < 8; what++) {
                due.is("player(" + player + ", " + what + ")" + behind, x.player(player, what), model.player(player, what));
            }
            due.is("at(" + player + ")" + behind, x.at(player), model.at(player));
        }
        for (int what = 0; what < 16; what++) due.is("count(" + what + ")" + behind, x.count(what), model.count(what));
    }
}

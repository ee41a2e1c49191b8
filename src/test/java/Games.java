/** States that tests begin with, each new from its calls. */
final class Games {
    private Games() {
    }

    /** The order is 2, 4, 3, 1, 0; six changes can be undone, both slots hold something, moves are on the pad. */
    static TurnBids between() {
        TurnBids x = new TurnBids();
        x.coins(3, 41);
        x.save(0);
        x.limit(2, 20);
        x.prize(1, 33);
        x.save(1);
        x.set(TurnBids.DROP, 35);
        x.finish();
        x.limit(4, 0);
        x.set(TurnBids.STEP, 2);
        x.coins(2, 25);
        Seen.put(x, "+,7,-,*");
        return x;
    }

    /** 1 has dropped without a bid, 2 with the bid 3; 4, 3 and 0 have bid 5, 8 and 12; 4 has the turn, 14 is the least bid. */
    static TurnBids underWay() {
        TurnBids x = between();
        x.wipe();
        x.begin();
        x.bid(3);
        x.bid(5);
        x.bid(8);
        x.drop();
        x.bid(12);
        x.drop();
        Seen.put(x, "16,-,*");
        return x;
    }

    /** All limits and prizes alike, FIRST 0, and as many coins for each. */
    static TurnBids alike(int coins, int limit, int prize) {
        TurnBids x = new TurnBids();
        x.set(TurnBids.FIRST, 0);
        for (int i = 0; i < 5; i++) {
            x.coins(i, coins);
            x.limit(i, limit);
            x.prize(i, prize);
        }
        return x;
    }

    static void drop(TurnBids x, int times) {
        for (int time = 0; time < times; time++) x.drop();
    }
}

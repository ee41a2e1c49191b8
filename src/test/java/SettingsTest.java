import java.util.function.Supplier;

/** Promises 1 to 5: a new object, set, coins, limit, prize. */
public final class SettingsTest {
    private static final Due due = new Due("SettingsTest");

    public static void main(String[] args) {
        newObject();
        set();
        coins();
        coinsUnderABid();
        limit();
        prize();
        due.end();
    }

    private static void newObject() {
        TurnBids x = new TurnBids();
        due.all("coins", Seen.players(x, 0), 20, 20, 20, 20, 20);
        due.all("limits", Seen.players(x, 1), 10, 10, 10, 10, 10);
        due.all("places", Seen.players(x, 2), 0, 1, 2, 3, 4);
        due.all("order", Seen.order(x), 0, 1, 2, 3, 4);
        for (int what = 5; what < 8; what++) due.all("player(.., " + what + ")", Seen.players(x, what), 0, 0, 0, 0, 0);
        for (int what = 3; what < 5; what++) {
            int none = TurnBids.NONE;
            due.all("player(.., " + what + ")", Seen.players(x, what), none, none, none, none, none);
        }
        int[] counts = {1, 1, 50, 0, 0, TurnBids.NONE, TurnBids.NONE, TurnBids.NONE, 0, 0, 100, 0, 0, 15, 0, 0};
        for (int what = 0; what < 16; what++) due.is("count(" + what + ")", x.count(what), counts[what]);
        for (int prize = 0; prize < 5; prize++) due.is("prizeOf(" + prize + ")", x.prizeOf(prize), 5 - prize);
        due.is("undo()", x.undo(), TurnBids.NOT_POSSIBLE);
        due.is("restore(0)", x.restore(0), TurnBids.NOT_POSSIBLE);
        due.is("restore(1)", x.restore(1), TurnBids.NOT_POSSIBLE);
        due.is("fault()", x.fault(), 0);
    }

    private static void set() {
        int[] least = {1, 0, 0, 0};
        int[] most = {9, 20, 100, 100};
        int[] first = {1, 1, 50, 0};
        for (int setting = 0; setting < 4; setting++) {
            TurnBids x = new TurnBids();
            String name = "set(" + setting + ", ..)";
            due.is(name, x.set(setting, most[setting]), first[setting]);
            due.is(name, x.set(setting, least[setting]), most[setting]);
            due.is("count(" + setting + ")", x.count(setting), least[setting]);
            due.is("count(15)", x.count(15), 2);
            int s = setting;
            due.refused(name + " too small", SettingsTest::used, o -> o.set(s, least[s] - 1), TurnBids.BAD_VALUE);
            due.refused(name + " too great", SettingsTest::used, o -> o.set(s, most[s] + 1), TurnBids.BAD_VALUE);
        }
        due.refused("set(-1, 1)", SettingsTest::used, o -> o.set(-1, 1), TurnBids.BAD_VALUE);
        due.refused("set(4, 1)", SettingsTest::used, o -> o.set(4, 1), TurnBids.BAD_VALUE);
        due.refused("set(far, 1)", SettingsTest::used, o -> o.set(Integer.MIN_VALUE, 1), TurnBids.BAD_VALUE);
        due.refused("set(0, far)", SettingsTest::used, o -> o.set(0, Integer.MAX_VALUE), TurnBids.BAD_VALUE);
        TurnBids x = new TurnBids();
        x.begin();
        due.is("set(1, 7) in an auction", x.set(1, 7), 1);
        due.is("count(7)", x.count(7), 7);
        x.bid(9);
        due.is("set(0, 9) in an auction", x.set(0, 9), 1);
        due.is("count(7)", x.count(7), 18);
    }

    private static void coins() {
        TurnBids x = new TurnBids();
        due.is("coins(4, 9999)", x.coins(4, 9999), 20);
        due.is("coins(4, 0)", x.coins(4, 0), 9999);
        due.is("coins(0, 7)", x.coins(0, 7), 20);
        due.all("coins", Seen.players(x, 0), 7, 20, 20, 20, 0);
        due.is("count(15)", x.count(15), 3);
        due.refused("coins(-1, -1)", SettingsTest::used, o -> o.coins(-1, -1), TurnBids.NO_SUCH);
        due.refused("coins(5, 3)", SettingsTest::used, o -> o.coins(5, 3), TurnBids.NO_SUCH);
        due.refused("coins(0, -1)", SettingsTest::used, o -> o.coins(0, -1), TurnBids.BAD_VALUE);
        due.refused("coins(0, 10000)", SettingsTest::used, o -> o.coins(0, 10000), TurnBids.BAD_VALUE);
    }

    private static void coinsUnderABid() {
        Supplier<TurnBids> bidders = () -> {
            TurnBids x = used();
            x.begin();
            x.bid(8);
            x.bid(9);
            return x;
        };
        due.refused("coins(2, 7) under the bid 8", bidders, o -> o.coins(2, 7), TurnBids.NOT_POSSIBLE);
        due.refused("coins(2, -1) under the bid 8", bidders, o -> o.coins(2, -1), TurnBids.BAD_VALUE);
        TurnBids x = bidders.get();
        due.is("coins(2, 8)", x.coins(2, 8), 25);
        due.is("coins(0, 0)", x.coins(0, 0), 5);
        x.drop();
        x.drop();
        x.drop();
        due.is("count(5)", x.count(5), 2);
        due.is("coins(2, 7)", x.coins(2, 7), TurnBids.NOT_POSSIBLE);
        x.bid(20);
        x.coins(2, 30);
        x.bid(20);
        due.is("coins(2, 20) with the bid 20", x.coins(2, 20), 30);
        due.is("coins(2, 19) with the bid 20", x.coins(2, 19), TurnBids.NOT_POSSIBLE);
        TurnBids y = bidders.get();
        y.drop();
        y.drop();
        y.drop();
        y.drop();
        due.is("coins(2, 0) when the auction has ended", y.coins(2, 0), 29);
        TurnBids z = new TurnBids();
        z.begin();
        z.bid(8);
        z.bid(9);
        z.bid(10);
        z.bid(11);
        z.bid(12);
        z.drop();
        due.is("player(0, 3) when it has dropped", z.player(0, 3), 8);
        due.is("coins(0, 0) when it has dropped", z.coins(0, 0), 20);
        due.is("coins(1, 8) with the bid 9", z.coins(1, 8), TurnBids.NOT_POSSIBLE);
    }

    private static void limit() {
        TurnBids x = new TurnBids();
        due.is("limit(0, 99)", x.limit(0, 99), 10);
        due.is("limit(0, 0)", x.limit(0, 0), 99);
        due.is("limit(4, 33)", x.limit(4, 33), 10);
        due.all("limits", Seen.players(x, 1), 0, 10, 10, 10, 33);
        due.is("count(15)", x.count(15), 3);
        due.refused("limit(-1, -1)", SettingsTest::used, o -> o.limit(-1, -1), TurnBids.NO_SUCH);
        due.refused("limit(5, 3)", SettingsTest::used, o -> o.limit(5, 3), TurnBids.NO_SUCH);
        due.refused("limit(0, -1)", SettingsTest::used, o -> o.limit(0, -1), TurnBids.BAD_VALUE);
        due.refused("limit(0, 100)", SettingsTest::used, o -> o.limit(0, 100), TurnBids.BAD_VALUE);
    }

    private static void prize() {
        TurnBids x = new TurnBids();
        due.is("prize(0, 99)", x.prize(0, 99), 5);
        due.is("prize(0, 0)", x.prize(0, 0), 99);
        due.is("prize(4, 7)", x.prize(4, 7), 1);
        due.is("count(13)", x.count(13), 16);
        due.is("count(15)", x.count(15), 3);
        due.refused("prize(-1, -1)", SettingsTest::used, o -> o.prize(-1, -1), TurnBids.NO_SUCH);
        due.refused("prize(5, 3)", SettingsTest::used, o -> o.prize(5, 3), TurnBids.NO_SUCH);
        due.refused("prize(0, -1)", SettingsTest::used, o -> o.prize(0, -1), TurnBids.BAD_VALUE);
        due.refused("prize(0, 100)", SettingsTest::used, o -> o.prize(0, 100), TurnBids.BAD_VALUE);
    }

    /** Not as new: player 2 has the place 0 and 25 coins, a slot is used, the pad too. */
    private static TurnBids used() {
        TurnBids x = new TurnBids();
        x.save(0);
        Seen.put(x, "+,3,-x");
        x.limit(2, 20);
        x.coins(0, 4);
        x.finish();
        x.coins(2, 25);
        return x;
    }
}

import java.util.function.Supplier;

/** Promises 11 and 21 to 23: run, put, wipe, fault. */
public final class TextTest {
    private static final Due due = new Due("TextTest");
    private static final int NONE = TurnBids.NONE;

    public static void main(String[] args) {
        put();
        putRefused();
        putIsFull();
        wipe();
        faults();
        run();
        runStops();
        runIsOneChange();
        runRefused();
        due.end();
    }

    private static void put() {
        TurnBids x = new TurnBids();
        due.is("put(\"+\")", x.put('+'), 1);
        due.is("put(\",1\")", x.put(Seen.packed(",1")), 3);
        due.is("put(\"234,-,-,\")", x.put(Seen.packed("234,-,-,")), 11);
        due.is("count(14)", x.count(14), 11);
        due.is("count(15)", x.count(15), 0);
        due.is("fault()", x.fault(), 11);
        due.is("put(\"-\")", x.put('-'), 12);
        x.coins(0, 1234);
        due.is("run(), the characters stand in their order", x.run(), 5);
        due.is("count(6)", x.count(6), 1234);
        TurnBids y = new TurnBids();
        due.is("put of the codes 33 and 126", y.put(33L << 8 | 126), 2);
        due.is("fault()", y.fault(), 1);
        due.is("put of eight times 126", y.put(Seen.packed("~~~~~~~~")), 10);
    }

    private static void putRefused() {
        long[] bad = {0, 32, 127, 128, 255, -1, Long.MIN_VALUE, Long.MAX_VALUE, 0x2B00L, 0x2B002BL, 0x2B00002BL,
            0x2B0000000000002BL, 0x2B00000000000000L, 0x012BL, 0x202BL, 0x2B20L, 0x7F2BL, 0x2B2B2B2B2B2B2B20L, 0x802B2B2B2B2B2B2BL};
        for (long characters : bad) {
            String name = "put(" + Long.toHexString(characters) + ")";
            due.refused(name, TextTest::used, o -> o.put(characters), TurnBids.BAD_VALUE);
            due.refused(name + " on a full pad", () -> filled(60), o -> o.put(characters), TurnBids.BAD_VALUE);
        }
    }

    private static void putIsFull() {
        for (int more = 1; more <= 8; more++) {
            long characters = Seen.packed("12345678".substring(0, more));
            due.is("put up to 60", filled(60 - more).put(characters), 60);
            int length = 61 - more;
            due.refused("put up to 61", () -> filled(length), o -> o.put(characters), TurnBids.TOO_MANY);
        }
    }

    private static void wipe() {
        TurnBids x = used();
        due.is("wipe()", x.wipe(), 5);
        due.is("wipe()", x.wipe(), 0);
        due.is("count(14)", x.count(14), 0);
        due.is("count(15)", x.count(15), 2);
        due.is("fault()", x.fault(), 0);
        due.is("put behind wipe()", x.put('-'), 1);
        due.is("fault()", x.fault(), NONE);
    }

    private static void faults() {
        String[] texts = {"+", "-", "*", "!", "0", "7", "10", "9999", "+,0,-,*,!,1000", "1,2,3,4",
            "+,", ",", "+,,", "++", "-!", "00", "01", "0,00", "10000", "1,99999", "5-", "-5", "*,12,*5", "12a", "a", "+,a",
            "/", ":", "1/", "1:", "1,/", ".", "!,\"", "0,", "9999,", "~", "12345,x", "1000,0000"};
        int[] faults = {NONE, NONE, NONE, NONE, NONE, NONE, NONE, NONE, NONE, NONE,
            2, 0, 2, 1, 1, 1, 1, 3, 4, 6, 1, 1, 6, 2, 0, 2,
            0, 0, 1, 1, 2, 0, 2, 2, 5, 0, 4, 6};
        for (int i = 0; i < texts.length; i++) {
            TurnBids x = new TurnBids();
            Seen.put(x, texts[i]);
            due.is("fault() of " + texts[i], x.fault(), faults[i]);
            due.is("count(14) then", x.count(14), texts[i].length());
        }
        due.is("fault() of 60 digits", filled(60).fault(), 4);
        TurnBids x = new TurnBids();
        for (int put = 0; put < 15; put++) Seen.put(x, "12,");
        due.is("fault() of a text that ends with a comma", x.fault(), 45);
        Seen.put(x, "0,1,2,3,4,5,6,7");
        due.is("fault() of 60 characters", x.fault(), NONE);
    }

    private static void run() {
        TurnBids x = new TurnBids();
        Seen.put(x, "!,+,3,12,-,*,*,0");
        due.is("run()", x.run(), 7);
        due.is("count(9)", x.count(9), 1);
        due.all("bids", Seen.players(x, 3), NONE, NONE, NONE, 12, 3);
        due.all("places got", Seen.players(x, 4), 2, 3, 4, NONE, NONE);
        due.is("count(5)", x.count(5), 4);
        due.is("count(14)", x.count(14), 0);
        TurnBids y = new TurnBids();
        Seen.put(y, "+,-,-,-,-,+,*,-,-,-,-,!,+,20");
        due.is("run(), over the ends of auctions", y.run(), 14);
        due.is("count(9)", y.count(9), 3);
        due.is("count(6)", y.count(6), 20);
        TurnBids w = new TurnBids();
        w.begin();
        Seen.put(w, "5,10,-,11");
        due.is("run() of what begins with a number", w.run(), 4);
        due.all("bids", Seen.players(w, 3), 5, 10, NONE, 11, NONE);
        TurnBids z = new TurnBids();
        Seen.put(z, "!,!,!,!,!,!,!,!,!,!,!,!,!,!,!,!,!,!,!,!,!,!,!,!,!,!,!,!,!,!");
        due.is("run() of thirty", z.run(), 30);
        due.is("count(9)", z.count(9), 30);
    }

    private static void runStops() {
        String[] texts = {"-", "*", "5", "+,+", "+,3,3,4", "+,21", "+,0,-", "+,-,-,-,-,-", "+,20,-,-,-,*,*", "+,1,2,!,3"};
        int[] done = {0, 0, 0, 1, 2, 1, 1, 5, 6, 4};
        for (int i = 0; i < texts.length; i++) {
            TurnBids x = new TurnBids();
            Seen.put(x, texts[i]);
            due.is("run() of " + texts[i], x.run(), done[i]);
            due.is("count(14)", x.count(14), 0);
            due.is("count(15)", x.count(15), 1);
            due.is("fault()", x.fault(), 0);
        }
    }

    private static void runIsOneChange() {
        TurnBids x = new TurnBids();
        x.coins(0, 33);
        int[] before = Seen.all(x);
        Seen.put(x, "+,5,!,!");
        due.is("run()", x.run(), 4);
        due.is("count(15)", x.count(15), 2);
        due.is("undo()", x.undo(), 1);
        due.all("what there is behind undo()", Seen.all(x), before);
        Seen.put(x, "-");
        due.is("run() of none", x.run(), 0);
        due.is("count(15)", x.count(15), 2);
        due.is("undo()", x.undo(), 1);
        due.all("what there is behind undo()", Seen.all(x), before);
    }

    private static void runRefused() {
        String[] texts = {"", "+,", "+,01", "!x", ",", "12345"};
        for (String text : texts) {
            Supplier<TurnBids> made = () -> {
                TurnBids x = used();
                x.wipe();
                Seen.put(x, text);
                return x;
            };
            due.refused("run() of " + text, made, TurnBids::run, TurnBids.BAD_TEXT);
        }
    }

    private static TurnBids used() {
        TurnBids x = new TurnBids();
        x.save(0);
        x.limit(2, 20);
        x.begin();
        Seen.put(x, "+,3,-");
        return x;
    }

    private static TurnBids filled(int length) {
        TurnBids x = new TurnBids();
        for (int put = 0; put < length; put++) x.put('1');
        return x;
    }
}

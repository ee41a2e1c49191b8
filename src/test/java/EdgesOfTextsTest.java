import java.util.function.Supplier;

/** The boundary cases that the document names under "Texts" and in the promises 11 and 21 to 23: run, put, wipe, fault. */
public final class EdgesOfTextsTest {
    private static final Due due = new Due("EdgesOfTextsTest");
    private static final int NONE = TurnBids.NONE, BAD_VALUE = TurnBids.BAD_VALUE, BAD_TEXT = TurnBids.BAD_TEXT;
    private static final String MOVE_BEGINS = "+-*!0123456789", DIGITS = "0123456789";

    public static void main(String[] args) {
        faultOfEachCharacterWhereAMoveBegins();
        faultOfEachCharacterBehindAMove();
        faultOfEachCharacterInANumber();
        faultIsTheFirst();
        faultAtTheEnd();
        faultOfAFullPad();
        numbersAtTheirEnds();
        putOfOneToEight();
        putOfTheFirstAndLastCode();
        putOfACodeBeyond();
        putOfNoCharacter();
        putWithAHole();
        putOfTheFarthest();
        putFillsThePad();
        putBeyondThePad();
        badValueIsAheadOfTooMany();
        putIsNoChange();
        wipeOfTheEmptyAndTheFull();
        runOfAnEmptyPad();
        runOfAFault();
        runOfOneMove();
        runOfActsThatBid();
        runOfAShorterText();
        runStopsAtEachError();
        runUpToTheFirstError();
        runOfAFullPad();
        runOfNone();
        runOverTheEndOfAnAuction();
        due.end();
    }

    private static TurnBids with(String text) {
        TurnBids x = Games.between();
        x.wipe();
        Seen.put(x, text);
        return x;
    }

    private static void faultIs(String text, int fault) {
        due.is("fault() of '" + text + "'", with(text).fault(), fault);
    }

    private static void faultOfEachCharacterWhereAMoveBegins() {
        due.sentence("the index of the first character that cannot stand at its place when the text is read from left to right");
        for (String ahead : new String[] {"", "+,", "0,", "9999,", "-,*,!,"}) {
            for (char sign = 33; sign <= 126; sign++) {
                faultIs(ahead + sign, MOVE_BEGINS.indexOf(sign) >= 0 ? NONE : ahead.length());
            }
        }
    }

    private static void faultOfEachCharacterBehindAMove() {
        due.sentence("the index of the first character that cannot stand at its place when the text is read from left to right");
        for (String ahead : new String[] {"+", "-", "*", "!", "0", "1000", "9999", "+,-", "1,0", "!,1234"}) {
            for (char sign = 33; sign <= 126; sign++) {
                faultIs(ahead + sign, ahead.length() + (sign == ',' ? 1 : 0));
            }
        }
    }

    private static void faultOfEachCharacterInANumber() {
        due.sentence("Numbers are 0 to 9999 without leading zeros");
        for (String ahead : new String[] {"1", "9", "10", "99", "100", "999", "0,5", "*,50", "-,505"}) {
            for (char sign = 33; sign <= 126; sign++) {
                boolean isDigit = DIGITS.indexOf(sign) >= 0;
                faultIs(ahead + sign, isDigit ? NONE : ahead.length() + (sign == ',' ? 1 : 0));
            }
        }
    }

    private static void faultIsTheFirst() {
        due.sentence("the index of the first character that cannot stand at its place when the text is read from left to right");
        faultIs("x,y", 0);
        faultIs("+x,y", 1);
        faultIs("+,,,", 2);
        faultIs(",+", 0);
        faultIs("00,01,x", 1);
        faultIs("9999,99999,00000", 9);
        faultIs("+,-,*,!,0,10000", 14);
        faultIs("+-,", 1);
        faultIs("1+,2", 1);
        faultIs("5,+5", 3);
    }

    private static void faultAtTheEnd() {
        due.sentence("if there is none and the text ends too early (also if it is empty), it is the length of the text");
        due.is("fault() of a new object", new TurnBids().fault(), 0);
        faultIs("", 0);
        faultIs("+,", 2);
        faultIs("0,", 2);
        faultIs("9999,", 5);
        faultIs("!,!,!,!,", 8);
        faultIs("+x,", 1);
    }

    private static void faultOfAFullPad() {
        due.sentence("if there is none and the text ends too early (also if it is empty), it is the length of the text");
        String moves = "-,".repeat(29);
        faultIs(moves + "-,", 60);
        faultIs(moves + "-", NONE);
        faultIs(moves + "12", NONE);
        faultIs(moves + "1x", 59);
        faultIs(moves + "01", 59);
        faultIs("-,".repeat(28) + "9999", NONE);
        faultIs("-,".repeat(28) + "999,", 60);
        faultIs("-,".repeat(27) + ",99999", 54);
        faultIs("-,".repeat(27) + "-,999,", 60);
        faultIs("1".repeat(60), 4);
        faultIs("x".repeat(60), 0);
    }

    private static void numbersAtTheirEnds() {
        due.sentence("Numbers are 0 to 9999 without leading zeros");
        int[] numbers = {0, 1, 9, 10, 99, 100, 999, 1000, 9998, 9999};
        for (int number : numbers) {
            TurnBids x = Games.alike(9999, 0, 0);
            Seen.put(x, "+," + number);
            due.is("fault() of " + number, x.fault(), NONE);
            due.is("run() of +," + number, x.run(), 2);
            due.is("count(6)", x.count(6), number);
        }
        String[] faulty = {"10000", "99999", "00", "01", "09", "0000", "00000", "12345"};
        int[] faults = {4, 4, 1, 1, 1, 1, 1, 4};
        for (int i = 0; i < faulty.length; i++) faultIs(faulty[i], faults[i]);
    }

    private static void putOfOneToEight() {
        due.sentence("characters: 1 to 8 characters");
        String text = "9,8,7,6,";
        for (int length = 1; length <= 8; length++) {
            TurnBids x = new TurnBids();
            due.is("put of " + length, x.put(Seen.packed(text.substring(0, length))), length);
            due.is("count(14)", x.count(14), length);
            due.is("put of " + length + " once more", x.put(Seen.packed(text.substring(0, length))), 2 * length);
        }
        due.sentence("its lowest 8 bits are the last character, the next 8 bits the one before, and so on");
        for (int place = 0; place < 8; place++) {
            TurnBids x = new TurnBids();
            x.put(Seen.packed("9,8,7,6,".substring(0, place) + "x" + "9,8,7,6,".substring(place + 1)));
            due.is("fault(), x is the character " + place, x.fault(), place);
        }
        TurnBids y = Games.alike(9999, 0, 0);
        y.put(0x2B2C31323334L);
        y.run();
        due.is("count(6) of +,1234", y.count(6), 1234);
    }

    private static void putOfTheFirstAndLastCode() {
        due.sentence("a code is not 33 to 126");
        for (int length = 1; length <= 8; length++) {
            for (int place = 0; place < length; place++) {
                for (int code : new int[] {33, 34, 125, 126}) {
                    due.is("put with the code " + code + " at " + place, new TurnBids().put(withCode(length, place, code)), length);
                }
            }
        }
        TurnBids x = new TurnBids();
        due.is("put(33)", x.put(33), 1);
        due.is("fault(), 33 is a move", x.fault(), NONE);
        due.is("put(126)", x.put(126), 2);
        due.is("fault()", x.fault(), 1);
    }

    /** So many characters, all '5' but for one place, the first one being 0. */
    private static long withCode(int length, int place, int code) {
        long characters = 0;
        for (int index = 0; index < length; index++) characters = characters << 8 | (index == place ? code : '5');
        return characters;
    }

    private static void putOfACodeBeyond() {
        due.sentence("BAD_VALUE if .. a code is not 33 to 126");
        for (int length = 1; length <= 8; length++) {
            for (int place = 0; place < length; place++) {
                for (int code : new int[] {1, 9, 10, 31, 32, 127, 128, 160, 161, 254, 255}) {
                    long characters = withCode(length, place, code);
                    due.refused("put(0x" + Long.toHexString(characters) + ")", Games::underWay, o -> o.put(characters), BAD_VALUE);
                }
            }
        }
    }

    private static void putOfNoCharacter() {
        due.sentence("BAD_VALUE if there is no character");
        due.refusedEverywhere("put(0)", o -> o.put(0), BAD_VALUE);
        due.refused("put(0) on a full pad", () -> with("1".repeat(60)), o -> o.put(0), BAD_VALUE);
    }

    private static void putWithAHole() {
        due.sentence("BAD_VALUE if .. a bit above 8 bits that are 0 is not 0");
        for (int length = 2; length <= 8; length++) {
            for (int place = 1; place < length; place++) {
                long characters = withCode(length, place, 0);
                due.refused("put(0x" + Long.toHexString(characters) + ")", Games::underWay, o -> o.put(characters), BAD_VALUE);
            }
        }
        for (int bit = 16; bit < 64; bit++) {
            long characters = 1L << bit | '5';
            due.refused("put(0x" + Long.toHexString(characters) + ")", Games::underWay, o -> o.put(characters), BAD_VALUE);
        }
        for (int bit = 8; bit < 64; bit++) {
            long characters = 1L << bit;
            due.refused("put(0x" + Long.toHexString(characters) + ")", Games::underWay, o -> o.put(characters), BAD_VALUE);
        }
        due.is("put, the first 8 bits that are 0 are above the last character", new TurnBids().put(0x0035), 1);
        due.is("put, the first 8 bits that are 0 are above seven", new TurnBids().put(0x0035353535353535L), 7);
    }

    private static void putOfTheFarthest() {
        due.sentence("BAD_VALUE if there is no character, a code is not 33 to 126, or a bit above 8 bits that are 0 is not 0");
        long[] farthest = {Long.MIN_VALUE, Long.MIN_VALUE + 1, Long.MIN_VALUE | '5', Long.MAX_VALUE, Long.MAX_VALUE - 1, -1, -2,
            Integer.MIN_VALUE, Integer.MAX_VALUE, 1L << 32, (1L << 32) - 1, (1L << 32) | '5', 0xB535353535353535L, 0x7F35353535353535L};
        for (long characters : farthest) {
            due.refusedEverywhere("put(" + characters + ")", o -> o.put(characters), BAD_VALUE);
        }
        due.is("put of the greatest number that may be put", new TurnBids().put(0x7E7E7E7E7E7E7E7EL), 8);
        due.is("put of the least number that may be put", new TurnBids().put(0x21), 1);
    }

    private static void putFillsThePad() {
        due.sentence("The pad is a text of at most 60 characters");
        for (int more = 1; more <= 8; more++) {
            TurnBids x = with("-".repeat(60 - more));
            due.is("put of " + more + " up to 60", x.put(withCode(more, 0, '5')), 60);
            due.is("count(14)", x.count(14), 60);
        }
        due.is("put of 1 up to 59", with("-".repeat(58)).put('5'), 59);
    }

    private static void putBeyondThePad() {
        due.sentence("TOO_MANY if the pad would be longer than 60");
        for (int more = 1; more <= 8; more++) {
            for (int length = 61 - more; length <= 60; length++) {
                int ahead = length;
                long characters = withCode(more, 0, '5');
                Supplier<TurnBids> maker = () -> with("-,".repeat(30).substring(0, ahead));
                due.refused("put of " + more + " behind " + ahead, maker, o -> o.put(characters), TurnBids.TOO_MANY);
            }
        }
        TurnBids x = with("-".repeat(59));
        due.is("put of 2 behind 59", x.put(Seen.packed("55")), TurnBids.TOO_MANY);
        due.is("put of 1 behind 59", x.put('5'), 60);
    }

    private static void badValueIsAheadOfTooMany() {
        due.sentence("it names its errors in the order in which they are checked, and the first one that applies is returned");
        long[] bad = {0, 32, 127, -1, Long.MIN_VALUE, Long.MAX_VALUE, 0x350035L, 0x7F35353535353535L, 0x3535353535353520L};
        for (int length : new int[] {53, 59, 60}) {
            for (long characters : bad) {
                Supplier<TurnBids> maker = () -> with("-,".repeat(30).substring(0, length));
                due.refused("put(" + characters + ") behind " + length, maker, o -> o.put(characters), BAD_VALUE);
            }
        }
    }

    private static void putIsNoChange() {
        due.sentence("everything except the pad, the slots and the history is as it was before it");
        TurnBids x = Games.underWay();
        int[] state = Seen.state(x);
        int changes = x.count(15);
        x.put('-');
        x.wipe();
        x.fault();
        due.all("what there is behind put(), wipe() and fault()", Seen.state(x), state);
        due.is("count(15)", x.count(15), changes);
    }

    private static void wipeOfTheEmptyAndTheFull() {
        due.sentence("Empties the pad, and returns the length that it had");
        TurnBids x = new TurnBids();
        due.is("wipe() of an empty pad", x.wipe(), 0);
        x.put('5');
        due.is("wipe() of one character", x.wipe(), 1);
        due.is("wipe() once more", x.wipe(), 0);
        TurnBids y = with("1".repeat(60));
        due.is("wipe() of a full pad", y.wipe(), 60);
        due.is("count(14)", y.count(14), 0);
        due.is("fault()", y.fault(), 0);
        due.is("put on the pad that was full", y.put(withCode(8, 7, '+')), 8);
    }

    private static void runOfAnEmptyPad() {
        due.sentence("BAD_TEXT if the pad has a fault");
        due.refused("run() on a new object", TurnBids::new, TurnBids::run, BAD_TEXT);
        due.refused("run() of an empty pad", () -> with(""), TurnBids::run, BAD_TEXT);
        Supplier<TurnBids> hasRun = () -> {
            TurnBids x = with("+");
            x.run();
            return x;
        };
        due.refused("run() of a pad that has run", hasRun, TurnBids::run, BAD_TEXT);
    }

    private static void runOfAFault() {
        due.sentence("BAD_TEXT if the pad has a fault");
        String moves = "-,".repeat(29);
        String[] texts = {"x", "+x", "+,", "+,,", "01", "10000", "+,5,6,07", "!,!,!,~", moves + "-,", moves + "1x", moves + "01"};
        for (String text : texts) due.refused("run() of '" + text + "'", () -> with(text), TurnBids::run, BAD_TEXT);
        due.refused("run() of a fault behind a move that is not possible", () -> with("-,x"), TurnBids::run, BAD_TEXT);
    }

    private static void runOfOneMove() {
        due.sentence("Does the moves of the pad, one after the other");
        String[] moves = {"+", "!"};
        for (String move : moves) due.is("run() of " + move + " between two", with(move).run(), 1);
        for (String move : new String[] {"-", "*", "!", "14", "22"}) {
            TurnBids x = Games.underWay();
            x.wipe();
            Seen.put(x, move);
            TurnBids by = Games.underWay();
            by.wipe();
            if (move.equals("-")) by.drop();
            else if (move.equals("*")) by.act();
            else if (move.equals("!")) by.finish();
            else by.bid(Integer.parseInt(move));
            due.is("run() of " + move, x.run(), 1);
            due.all("what there is", Seen.all(x), Seen.all(by));
        }
    }

    private static void runOfActsThatBid() {
        due.sentence("Does the moves of the pad, one after the other");
        TurnBids x = new TurnBids();
        Seen.put(x, "+,*,*,-,*");
        due.is("run()", x.run(), 5);
        due.all("bids", Seen.players(x, 3), 1, 2, NONE, 3, NONE);
        due.is("count(8)", x.count(8), 27);
    }

    private static void runOfAShorterText() {
        due.sentence("empties the pad");
        TurnBids x = new TurnBids();
        Seen.put(x, "12,-,-,-");
        x.wipe();
        Seen.put(x, "+,7");
        due.is("fault(), nothing is left of the text that was wiped", x.fault(), NONE);
        due.is("run()", x.run(), 2);
        due.is("count(8)", x.count(8), 31);
        TurnBids y = new TurnBids();
        Seen.put(y, "+,-,-,-,1");
        y.run();
        Seen.put(y, "12");
        due.is("run(), nothing is left of the text that was run", y.run(), 1);
        due.is("count(5)", y.count(5), 3);
        due.is("count(6)", y.count(6), 12);
    }

    private static void runStopsAtEachError() {
        due.sentence("up to the first one for which its method would return an error, and empties the pad");
        String[] between = {"-", "*", "0", "5", "9999"};
        for (String move : between) {
            TurnBids x = with(move + ",+");
            int[] state = Seen.state(x);
            due.is("run() of " + move + ", no auction is under way", x.run(), 0);
            due.all("what there is", Seen.state(x), state);
            due.is("count(14)", x.count(14), 0);
        }
        String[] underWay = {"+", "0", "5", "13", "23", "9999"};
        for (String move : underWay) {
            TurnBids x = Games.underWay();
            x.wipe();
            Seen.put(x, move + ",-,!");
            int[] state = Seen.state(x);
            due.is("run() of " + move + ", one is under way", x.run(), 0);
            due.all("what there is", Seen.state(x), state);
            due.is("count(14)", x.count(14), 0);
        }
    }

    private static void runUpToTheFirstError() {
        due.sentence("Returns how many moves are done");
        String[] texts = {"+,+,-", "+,-,+,-", "+,1,1,2", "+,1,-,2,9", "!,-,!", "+,5,7,9,21,-", "+,-,-,-,-,-,+", "+,-,-,-,-,*", "+,25,26"};
        int[] done = {1, 2, 2, 3, 1, 4, 5, 5, 2};
        for (int i = 0; i < texts.length; i++) {
            TurnBids x = with(texts[i]);
            x.undo();
            due.is("run() of " + texts[i], x.run(), done[i]);
            due.is("count(14)", x.count(14), 0);
            due.is("count(15), it is one change", x.count(15), 6);
        }
        TurnBids y = with("+,1,-,2,9");
        y.run();
        due.is("count(5), what stands behind the first one that fails is not done", y.count(5), 3);
        due.is("count(6)", y.count(6), 1);
    }

    private static void runOfAFullPad() {
        due.sentence("The pad is a text of at most 60 characters");
        TurnBids x = new TurnBids();
        Seen.put(x, "!,".repeat(29) + "+");
        due.is("run() of 59 characters", x.run(), 30);
        due.is("count(9), the last move begins one", x.count(9), 29);
        due.is("count(4)", x.count(4), 1);
        TurnBids y = Games.alike(9999, 0, 0);
        Seen.put(y, "!,".repeat(26) + "+,1,9999");
        due.is("count(14)", y.count(14), 60);
        due.is("run() of 60 characters", y.run(), 29);
        due.is("count(6), the number that ends the text", y.count(6), 9999);
    }

    private static void runOfNone() {
        due.sentence("(also if nothing is different then)");
        TurnBids x = new TurnBids();
        x.put('-');
        due.is("run()", x.run(), 0);
        due.is("count(15)", x.count(15), 1);
        due.is("count(14)", x.count(14), 0);
        due.is("undo()", x.undo(), 0);
        due.all("what there is", Seen.all(x), Seen.all(new TurnBids()));
    }

    private static void runOverTheEndOfAnAuction() {
        due.sentence("Does the moves of the pad, one after the other");
        TurnBids x = new TurnBids();
        Seen.put(x, "+,3,-,-,-,-,+,0");
        due.is("run(), the bid 0 of the second auction is below FIRST", x.run(), 7);
        due.is("count(9)", x.count(9), 1);
        due.is("count(4)", x.count(4), 1);
        due.is("player(0, 5)", x.player(0, 5), 2);
        TurnBids y = new TurnBids();
        Seen.put(y, "+,3,-,-,-,-,!,+,1");
        due.is("run()", y.run(), 9);
        due.is("count(9)", y.count(9), 2);
        due.is("undo(), all of it is one change", y.undo(), 0);
        due.all("what there is", Seen.all(y), Seen.all(new TurnBids()));
    }
}

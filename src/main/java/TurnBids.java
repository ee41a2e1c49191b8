/** An auction for turn order, as ../shared/DOC.md tells it; README.md shows how it is used. */
public final class TurnBids {
    public static final int NO_SUCH = -100001, BAD_VALUE = -100002, BAD_TEXT = -100003, TOO_MANY = -100004, NOT_POSSIBLE = -100005, NONE = -100006;
    public static final int STEP = 0, FIRST = 1, HALF = 2, DROP = 3;

    private static final int SETTINGS = 4, PLAYERS = 5, PRIZES = 5, SLOTS = 2;
    private static final int MOST_COINS = 9999, MOST_LIMIT = 99, MOST_PRIZE = 99, MOST_ROUNDS = 100;
    private static final int MOST_SIGNS = 60, MOST_SIGNS_AT_ONCE = 8, LEAST_CODE = 33, MOST_CODE = 126;
    private static final int MOST_KEPT = 6;
    /* By limits no bid is above 99 and each is above the one before: some 104 moves end any auction. */
    private static final int MOVES_NO_AUCTION_NEEDS = 10000;
    private static final int[] LEAST_VALUES = {1, 0, 0, 0};
    private static final int[] MOST_VALUES = {9, 20, 100, 100};

    private final Table table = new Table();
    /* What-if calls play here, so that none of them has to make a table. */
    private final Table trial = new Table();
    private final History history = new History();
    private final Table[] slots = new Table[SLOTS];
    private final Pad pad = new Pad();

    public TurnBids() {
    }

    // ---- changes

    public int set(int setting, int value) {
        if (setting < 0 || setting >= SETTINGS) return BAD_VALUE;
        if (value < LEAST_VALUES[setting] || value > MOST_VALUES[setting]) return BAD_VALUE;
        history.keep(table);
        int previous = table.settings[setting];
        table.settings[setting] = value;
        return previous;
    }

    public int coins(int player, int coins) {
        if (!isPlayer(player)) return NO_SUCH;
        if (coins < 0 || coins > MOST_COINS) return BAD_VALUE;
        if (table.hasToCover(player) > coins) return NOT_POSSIBLE;
        history.keep(table);
        int previous = table.coins[player];
        table.coins[player] = coins;
        return previous;
    }

    public int limit(int player, int limit) {
        if (!isPlayer(player)) return NO_SUCH;
        if (limit < 0 || limit > MOST_LIMIT) return BAD_VALUE;
        history.keep(table);
        int previous = table.limits[player];
        table.limits[player] = limit;
        return previous;
    }

    public int prize(int prize, int coins) {
        if (!isPrize(prize)) return NO_SUCH;
        if (coins < 0 || coins > MOST_PRIZE) return BAD_VALUE;
        history.keep(table);
        int previous = table.prizes[prize];
        table.prizes[prize] = coins;
        return previous;
    }

    public int begin() {
        if (table.underWay) return NOT_POSSIBLE;
        history.keep(table);
        return table.start();
    }

    public int bid(int coins) {
        if (coins < 0 || coins > MOST_COINS) return BAD_VALUE;
        if (!table.mayBid(coins)) return NOT_POSSIBLE;
        history.keep(table);
        return table.takeBid(coins);
    }

    public int drop() {
        if (!table.underWay) return NOT_POSSIBLE;
        history.keep(table);
        return table.dropOut();
    }

    public int act() {
        if (!table.underWay) return NOT_POSSIBLE;
        history.keep(table);
        return table.actByLimit();
    }

    public int finish() {
        history.keep(table);
        table.playRound();
        return table.playerAt(0);
    }

    public int run() {
        if (pad.faultIndex() != NONE) return BAD_TEXT;
        history.keep(table);
        int done = 0;
        int number = 0;
        for (int index = 0; index < pad.length; index++) {
            char sign = pad.signAt(index);
            if (Pad.isDigit(sign)) number = number * 10 + sign - '0';
            boolean endsMove = sign != ',' && (index + 1 == pad.length || pad.signAt(index + 1) == ',');
            if (!endsMove) continue;
            if (doMove(sign, number) == NOT_POSSIBLE) break;
            done++;
            number = 0;
        }
        pad.length = 0;
        return done;
    }

    // ---- what there is; nothing changes

    public int player(int player, int what) {
        if (!isPlayer(player)) return NO_SUCH;
        switch (what) {
            case 0: return table.coins[player];
            case 1: return table.limits[player];
            case 2: return table.places[player];
            case 3: return table.bids[player];
            case 4: return table.placesGot[player];
            case 5: return table.paid[player];
            case 6: return table.taken[player];
            case 7: return table.won[player];
            default: return BAD_VALUE;
        }
    }

    public int at(int place) {
        if (place < 0 || place >= PLAYERS) return NO_SUCH;
        return table.playerAt(place);
    }

    public int count(int what) {
        if (what >= 0 && what < SETTINGS) return table.settings[what];
        switch (what) {
            case 4: return table.underWay ? 1 : 0;
            case 5: return table.turn;
            case 6: return table.highestBid();
            case 7: return table.leastBid();
            case 8: return table.playersLeft();
            case 9: return table.rounds;
            case 10: return sum(table.coins);
            case 11: return sum(table.paid);
            case 12: return sum(table.taken);
            case 13: return sum(table.prizes);
            case 14: return pad.length;
            case 15: return history.length;
            default: return BAD_VALUE;
        }
    }

    public int prizeOf(int prize) {
        if (!isPrize(prize)) return NO_SUCH;
        return table.prizes[prize];
    }

    // ---- what if; nothing changes

    public int ifFinished(int player, int what) {
        if (!isPlayer(player)) return NO_SUCH;
        if (what < 0 || what > 3) return BAD_VALUE;
        tryRounds(1);
        switch (what) {
            case 0: return trial.places[player];
            case 1: return trial.paid[player] - table.paid[player];
            case 2: return trial.taken[player] - table.taken[player];
            default: return trial.coins[player] - table.coins[player];
        }
    }

    public int bestLimit(int player, int what) {
        if (!isPlayer(player)) return NO_SUCH;
        if (what != 0 && what != 1) return BAD_VALUE;
        int best = 0;
        int mostCoins = NONE;
        for (int limit = 0; limit <= MOST_LIMIT; limit++) {
            trial.copyFrom(table);
            trial.limits[player] = limit;
            trial.playRound();
            if (trial.coins[player] > mostCoins) {
                mostCoins = trial.coins[player];
                best = limit;
            }
        }
        return what == 0 ? best : mostCoins - table.coins[player];
    }

    public int coinsBehind(int player, int rounds) {
        if (!isPlayer(player)) return NO_SUCH;
        if (rounds < 1 || rounds > MOST_ROUNDS) return BAD_VALUE;
        tryRounds(rounds);
        return trial.coins[player];
    }

    public int richest(int rounds) {
        if (rounds < 1 || rounds > MOST_ROUNDS) return BAD_VALUE;
        tryRounds(rounds);
        int richest = 0;
        for (int player = 1; player < PLAYERS; player++) {
            int more = trial.coins[player] - trial.coins[richest];
            if (more > 0 || more == 0 && trial.places[player] < trial.places[richest]) richest = player;
        }
        return richest;
    }

    public int movesLeft() {
        if (!table.underWay) return NOT_POSSIBLE;
        trial.copyFrom(table);
        return trial.playRound();
    }

    // ---- texts

    public int put(long characters) {
        int more = Pad.signsIn(characters);
        if (more == 0) return BAD_VALUE;
        if (pad.length + more > MOST_SIGNS) return TOO_MANY;
        pad.append(characters, more);
        return pad.length;
    }

    public int wipe() {
        int previous = pad.length;
        pad.length = 0;
        return previous;
    }

    public int fault() {
        return pad.faultIndex();
    }

    // ---- undo, saving

    public int undo() {
        if (history.length == 0) return NOT_POSSIBLE;
        history.takeBack(table);
        return history.length;
    }

    public int save(int slot) {
        if (slot < 0 || slot >= SLOTS) return BAD_VALUE;
        Table saved = slots[slot];
        if (saved == null) {
            saved = new Table();
            slots[slot] = saved;
        }
        saved.copyFrom(table);
        return sum(table.coins);
    }

    public int restore(int slot) {
        if (slot < 0 || slot >= SLOTS) return BAD_VALUE;
        Table saved = slots[slot];
        if (saved == null) return NOT_POSSIBLE;
        history.keep(table);
        table.copyFrom(saved);
        return sum(table.coins);
    }

    private static boolean isPlayer(int player) {
        return player >= 0 && player < PLAYERS;
    }

    private static boolean isPrize(int prize) {
        return prize >= 0 && prize < PRIZES;
    }

    private static int sum(int[] row) {
        int sum = 0;
        for (int number : row) sum += number;
        return sum;
    }

    private void tryRounds(int rounds) {
        trial.copyFrom(table);
        for (int round = 0; round < rounds; round++) trial.playRound();
    }

    /* None of these keeps the state ahead of it: the run that they are part of is the one change. */
    private int doMove(char sign, int number) {
        if (sign == '+') return table.underWay ? NOT_POSSIBLE : table.start();
        if (sign == '!') return table.playRound();
        if (!table.underWay) return NOT_POSSIBLE;
        if (sign == '-') return table.dropOut();
        if (sign == '*') return table.actByLimit();
        return table.mayBid(number) ? table.takeBid(number) : NOT_POSSIBLE;
    }

    /** Everything that undo, save and restore are about. All rows of five are by the player's number. */
    private static final class Table {
        final int[] settings = {1, 1, 50, 0};
        final int[] prizes = {5, 4, 3, 2, 1};
        final int[] coins = {20, 20, 20, 20, 20};
        final int[] limits = {10, 10, 10, 10, 10};
        final int[] places = {0, 1, 2, 3, 4};
        /* These two, and the turn, are NONE whenever no auction is under way. */
        final int[] bids = {NONE, NONE, NONE, NONE, NONE};
        final int[] placesGot = {NONE, NONE, NONE, NONE, NONE};
        final int[] paid = new int[PLAYERS];
        final int[] taken = new int[PLAYERS];
        final int[] won = new int[PLAYERS];
        boolean underWay = false;
        int turn = NONE;
        int rounds = 0;

        void copyFrom(Table other) {
            System.arraycopy(other.settings, 0, settings, 0, SETTINGS);
            System.arraycopy(other.prizes, 0, prizes, 0, PRIZES);
            System.arraycopy(other.coins, 0, coins, 0, PLAYERS);
            System.arraycopy(other.limits, 0, limits, 0, PLAYERS);
            System.arraycopy(other.places, 0, places, 0, PLAYERS);
            System.arraycopy(other.bids, 0, bids, 0, PLAYERS);
            System.arraycopy(other.placesGot, 0, placesGot, 0, PLAYERS);
            System.arraycopy(other.paid, 0, paid, 0, PLAYERS);
            System.arraycopy(other.taken, 0, taken, 0, PLAYERS);
            System.arraycopy(other.won, 0, won, 0, PLAYERS);
            underWay = other.underWay;
            turn = other.turn;
            rounds = other.rounds;
        }

        int playerAt(int place) {
            for (int player = 0; player < PLAYERS; player++) {
                if (places[player] == place) return player;
            }
            return NONE;
        }

        /** The players who have not dropped, as a bit mask. */
        int playersLeft() {
            if (!underWay) return 0;
            int mask = 0;
            for (int player = 0; player < PLAYERS; player++) {
                if (placesGot[player] == NONE) mask |= 1 << player;
            }
            return mask;
        }

        int highestBid() {
            // NONE is below every bid, so it stays where there is none.
            int highest = NONE;
            for (int bid : bids) {
                if (bid > highest) highest = bid;
            }
            return highest;
        }

        int leastBid() {
            if (!underWay) return NONE;
            int highest = highestBid();
            return highest == NONE ? settings[FIRST] : highest + settings[STEP];
        }

        /** The coins that a player may not fall below, because it could have to pay them. */
        int hasToCover(int player) {
            if (!isPlayer(player) || placesGot[player] != NONE) return 0;
            return Math.max(0, bids[player]);
        }

        boolean mayBid(int bid) {
            return underWay && isPlayer(turn) && bid >= leastBid() && bid <= coins[turn];
        }

        int start() {
            underWay = true;
            turn = playerAt(0);
            return turn;
        }

        int takeBid(int bid) {
            if (isPlayer(turn)) bids[turn] = bid;
            passTurn();
            return turn;
        }

        int dropOut() {
            if (!isPlayer(turn)) return NONE;
            int left = Integer.bitCount(playersLeft()) - 1;
            placesGot[turn] = left;
            pay(turn, settings[DROP], 0);
            if (left == 1) {
                endAuction();
            } else {
                passTurn();
            }
            return turn;
        }

        int actByLimit() {
            int least = leastBid();
            if (isPlayer(turn) && least <= limits[turn] && mayBid(least)) return takeBid(least);
            return dropOut();
        }

        /** Plays by limits until an auction has ended, and tells in how many moves. */
        int playRound() {
            if (!underWay) start();
            int moves = 0;
            while (underWay && moves < MOVES_NO_AUCTION_NEEDS) {
                actByLimit();
                moves++;
            }
            return moves;
        }

        private void passTurn() {
            if (!isPlayer(turn)) return;
            int place = places[turn];
            for (int ahead = 1; ahead < PLAYERS; ahead++) {
                int next = playerAt((place + ahead) % PLAYERS);
                if (isPlayer(next) && placesGot[next] == NONE) {
                    turn = next;
                    return;
                }
            }
        }

        /* To round up, 99 hundredths of a coin are added ahead of the division. */
        private void pay(int player, int hundredths, int hundredthsMore) {
            if (!isPlayer(player) || bids[player] == NONE) return;
            int share = (bids[player] * hundredths + hundredthsMore) / 100;
            coins[player] -= share;
            paid[player] += share;
        }

        private void endAuction() {
            for (int player = 0; player < PLAYERS; player++) {
                if (placesGot[player] == NONE) {
                    placesGot[player] = 0;
                    won[player]++;
                    pay(player, settings[HALF], 99);
                }
                places[player] = placesGot[player];
                int prize = prizeFor(places[player]);
                coins[player] = Math.min(coins[player] + prize, MOST_COINS);
                taken[player] += prize;
                placesGot[player] = NONE;
                bids[player] = NONE;
            }
            underWay = false;
            turn = NONE;
            rounds++;
        }

        /** The prize that as many prizes are taken ahead of as there are places ahead of this one. */
        private int prizeFor(int place) {
            for (int prize = 0; prize < PRIZES; prize++) {
                int ahead = 0;
                for (int other = 0; other < PRIZES; other++) {
                    if (prizes[other] > prizes[prize] || prizes[other] == prizes[prize] && other < prize) ahead++;
                }
                if (ahead == place) return prizes[prize];
            }
            return 0;
        }
    }

    /** The states that undo goes back to, the oldest one's room used again for the newest. */
    private static final class History {
        private final Table[] states = new Table[MOST_KEPT];
        private int next = 0;
        int length = 0;

        void keep(Table table) {
            int spot = Math.floorMod(next, MOST_KEPT);
            Table state = states[spot];
            if (state == null) {
                state = new Table();
                states[spot] = state;
            }
            state.copyFrom(table);
            next++;
            length = Math.min(length + 1, MOST_KEPT);
        }

        void takeBack(Table table) {
            Table state = states[Math.floorMod(next - 1, MOST_KEPT)];
            if (length == 0 || state == null) return;
            table.copyFrom(state);
            next--;
            length--;
        }
    }

    /** The text that moves are read from. */
    private static final class Pad {
        /* What may come next: a move, or a comma with so many digits of a number ahead of it. */
        private static final int MOVE_DUE = -1, CANNOT_STAND = -2, DIGITS_BEHIND_THE_FIRST = 3;

        private final char[] signs = new char[MOST_SIGNS];
        int length = 0;

        static boolean isDigit(char sign) {
            return sign >= '0' && sign <= '9';
        }

        /** How many characters the number holds; 0 if it may not be put. */
        static int signsIn(long characters) {
            long rest = characters;
            int signs = 0;
            while (rest != 0 && signs < MOST_SIGNS_AT_ONCE) {
                long code = rest & 255;
                if (code < LEAST_CODE || code > MOST_CODE) return 0;
                signs++;
                rest >>>= 8;
            }
            return signs;
        }

        void append(long characters, int more) {
            if (more < 0 || length + more > MOST_SIGNS) return;
            long rest = characters;
            for (int index = length + more - 1; index >= length; index--) {
                signs[index] = (char) (rest & 255);
                rest >>>= 8;
            }
            length += more;
        }

        char signAt(int index) {
            return index >= 0 && index < MOST_SIGNS ? signs[index] : ',';
        }

        int faultIndex() {
            int due = MOVE_DUE;
            for (int index = 0; index < length; index++) {
                due = dueBehind(due, signAt(index));
                if (due == CANNOT_STAND) return index;
            }
            return due == MOVE_DUE ? length : NONE;
        }

        private static int dueBehind(int due, char sign) {
            if (due != MOVE_DUE) {
                if (sign == ',') return MOVE_DUE;
                return due > 0 && isDigit(sign) ? due - 1 : CANNOT_STAND;
            }
            if (sign == '+' || sign == '-' || sign == '*' || sign == '!' || sign == '0') return 0;
            return isDigit(sign) ? DIGITS_BEHIND_THE_FIRST : CANNOT_STAND;
        }
    }
}

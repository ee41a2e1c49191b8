import java.util.ArrayDeque;
import java.util.ArrayList;
import java.util.Arrays;
import java.util.Comparator;
import java.util.Deque;
import java.util.List;
import java.util.regex.Matcher;
import java.util.regex.Pattern;

/** The document once more, written another way and with no eye on room: what TurnBids is held against. */
final class Model {
    static final int NO_SUCH = -100001, BAD_VALUE = -100002, BAD_TEXT = -100003, TOO_MANY = -100004, NOT_POSSIBLE = -100005, NONE = -100006;
    private static final Pattern TEXT = Pattern.compile("(0|[1-9][0-9]{0,3}|[-+*!])(,(0|[1-9][0-9]{0,3}|[-+*!]))*");

    private static final class Who {
        final int number;
        int coins = 20, limit = 10, paid, taken, won;
        Integer bid, place;

        Who(int number) {
            this.number = number;
        }

        Who(Who other) {
            number = other.number;
            coins = other.coins;
            limit = other.limit;
            paid = other.paid;
            taken = other.taken;
            won = other.won;
            bid = other.bid;
            place = other.place;
        }
    }

    /** In an auction, the ring holds those who have not dropped, the one whose turn it is first. */
    private static final class Game {
        int step = 1, first = 1, half = 50, drop = 0, rounds = 0;
        final List<Who> who = new ArrayList<>();
        List<Integer> order = List.of(0, 1, 2, 3, 4);
        int[] prizes = {5, 4, 3, 2, 1};
        Deque<Integer> ring;
        Deque<Integer> dropped = new ArrayDeque<>();

        Game() {
            for (int number = 0; number < 5; number++) who.add(new Who(number));
        }

        Game(Game other) {
            step = other.step;
            first = other.first;
            half = other.half;
            drop = other.drop;
            rounds = other.rounds;
            for (Who one : other.who) who.add(new Who(one));
            order = other.order;
            prizes = other.prizes.clone();
            ring = other.ring == null ? null : new ArrayDeque<>(other.ring);
            dropped = new ArrayDeque<>(other.dropped);
        }

        Integer highest() {
            return who.stream().map(one -> one.bid).filter(bid -> bid != null).max(Comparator.naturalOrder()).orElse(null);
        }

        int least() {
            return highest() == null ? first : highest() + step;
        }

        int turn() {
            return ring == null ? NONE : ring.peekFirst();
        }

        int begin() {
            if (ring != null) return NOT_POSSIBLE;
            ring = new ArrayDeque<>(order);
            return turn();
        }

        int bid(int coins) {
            if (coins < 0 || coins > 9999) return BAD_VALUE;
            if (ring == null || coins < least() || coins > who.get(turn()).coins) return NOT_POSSIBLE;
            who.get(turn()).bid = coins;
            ring.addLast(ring.removeFirst());
            return turn();
        }

        int drop() {
            if (ring == null) return NOT_POSSIBLE;
            Who one = who.get(ring.removeFirst());
            one.place = 4 - dropped.size();
            dropped.addFirst(one.number);
            pay(one, (int) Math.floor(shareOf(one, drop)));
            if (ring.size() == 1) end();
            return turn();
        }

        private double shareOf(Who one, int hundredths) {
            return one.bid == null ? 0 : one.bid * hundredths / 100.0;
        }

        private void pay(Who one, int coins) {
            one.coins -= coins;
            one.paid += coins;
        }

        private void end() {
            Who last = who.get(ring.removeFirst());
            last.won++;
            pay(last, (int) Math.ceil(shareOf(last, half)));
            dropped.addFirst(last.number);
            order = List.copyOf(dropped);
            List<Integer> left = new ArrayList<>();
            for (int prize : prizes) left.add(prize);
            for (int number : order) {
                Integer greatest = left.stream().max(Comparator.naturalOrder()).get();
                left.remove(greatest);
                who.get(number).coins = Math.min(9999, who.get(number).coins + greatest);
                who.get(number).taken += greatest;
            }
            for (Who one : who) one.bid = one.place = null;
            dropped.clear();
            ring = null;
            rounds++;
        }

        int act() {
            if (ring == null) return NOT_POSSIBLE;
            Who one = who.get(turn());
            return least() <= one.limit && least() <= one.coins ? bid(least()) : drop();
        }

        int finish() {
            if (ring == null) begin();
            while (ring != null) act();
            return order.get(0);
        }

        int move(String text) {
            return switch (text) {
                case "+" -> begin();
                case "-" -> drop();
                case "*" -> act();
                case "!" -> finish();
                default -> bid(Integer.parseInt(text));
            };
        }

        int coinsOfAll() {
            return who.stream().mapToInt(one -> one.coins).sum();
        }
    }

    private Game game = new Game();
    private final Deque<Game> history = new ArrayDeque<>();
    private final Game[] slots = new Game[2];
    private String pad = "";

    private static boolean out(int number, int least, int most) {
        return number < least || number > most;
    }

    private static int orNone(Integer number) {
        return number == null ? NONE : number;
    }

    /** Ahead of a change that is not sure to succeed: it is taken back where the answer is an error. */
    private int kept(int answer, Game before) {
        if (answer <= NO_SUCH && answer >= NOT_POSSIBLE) return answer;
        history.addLast(before);
        if (history.size() > 6) history.removeFirst();
        return answer;
    }

    int set(int setting, int value) {
        if (out(setting, 0, 3)) return BAD_VALUE;
        if (setting == 0 ? out(value, 1, 9) : setting == 1 ? out(value, 0, 20) : out(value, 0, 100)) return BAD_VALUE;
        Game before = new Game(game);
        int previous = count(setting);
        if (setting == 0) game.step = value;
        if (setting == 1) game.first = value;
        if (setting == 2) game.half = value;
        if (setting == 3) game.drop = value;
        return kept(previous, before);
    }

    int coins(int player, int coins) {
        if (out(player, 0, 4)) return NO_SUCH;
        if (out(coins, 0, 9999)) return BAD_VALUE;
        Who one = game.who.get(player);
        if (game.ring != null && game.ring.contains(player) && one.bid != null && one.bid > coins) return NOT_POSSIBLE;
        Game before = new Game(game);
        int previous = one.coins;
        one.coins = coins;
        return kept(previous, before);
    }

    int limit(int player, int limit) {
        if (out(player, 0, 4)) return NO_SUCH;
        if (out(limit, 0, 99)) return BAD_VALUE;
        Game before = new Game(game);
        int previous = game.who.get(player).limit;
        game.who.get(player).limit = limit;
        return kept(previous, before);
    }

    int prize(int prize, int coins) {
        if (out(prize, 0, 4)) return NO_SUCH;
        if (out(coins, 0, 99)) return BAD_VALUE;
        Game before = new Game(game);
        int previous = game.prizes[prize];
        game.prizes[prize] = coins;
        return kept(previous, before);
    }

    int begin() {
        Game before = new Game(game);
        return kept(game.begin(), before);
    }

    int bid(int coins) {
        Game before = new Game(game);
        return kept(game.bid(coins), before);
    }

    int drop() {
        Game before = new Game(game);
        return kept(game.drop(), before);
    }

    int act() {
        Game before = new Game(game);
        return kept(game.act(), before);
    }

    int finish() {
        Game before = new Game(game);
        return kept(game.finish(), before);
    }

    int run() {
        if (fault() != NONE) return BAD_TEXT;
        Game before = new Game(game);
        int done = 0;
        for (String move : pad.split(",")) {
            if (game.move(move) == NOT_POSSIBLE) break;
            done++;
        }
        pad = "";
        return kept(done, before);
    }

    int player(int player, int what) {
        if (out(player, 0, 4)) return NO_SUCH;
        if (out(what, 0, 7)) return BAD_VALUE;
        Who one = game.who.get(player);
        return new int[] {one.coins, one.limit, game.order.indexOf(player), orNone(one.bid), orNone(one.place), one.paid, one.taken, one.won}[what];
    }

    int at(int place) {
        return out(place, 0, 4) ? NO_SUCH : game.order.get(place);
    }

    int count(int what) {
        boolean underWay = game.ring != null;
        return switch (what) {
            case 0 -> game.step;
            case 1 -> game.first;
            case 2 -> game.half;
            case 3 -> game.drop;
            case 4 -> underWay ? 1 : 0;
            case 5 -> game.turn();
            case 6 -> orNone(game.highest());
            case 7 -> underWay ? game.least() : NONE;
            case 8 -> underWay ? game.ring.stream().mapToInt(number -> 1 << number).sum() : 0;
            case 9 -> game.rounds;
            case 10 -> game.coinsOfAll();
            case 11 -> game.who.stream().mapToInt(one -> one.paid).sum();
            case 12 -> game.who.stream().mapToInt(one -> one.taken).sum();
            case 13 -> Arrays.stream(game.prizes).sum();
            case 14 -> pad.length();
            case 15 -> history.size();
            default -> BAD_VALUE;
        };
    }

    int prizeOf(int prize) {
        return out(prize, 0, 4) ? NO_SUCH : game.prizes[prize];
    }

    private Game behind(int rounds) {
        Game then = new Game(game);
        for (int round = 0; round < rounds; round++) then.finish();
        return then;
    }

    int ifFinished(int player, int what) {
        if (out(player, 0, 4)) return NO_SUCH;
        if (out(what, 0, 3)) return BAD_VALUE;
        Game game = behind(1);
        Who now = this.game.who.get(player);
        Who then = game.who.get(player);
        return new int[] {game.order.indexOf(player), then.paid - now.paid, then.taken - now.taken, then.coins - now.coins}[what];
    }

    int bestLimit(int player, int what) {
        if (out(player, 0, 4)) return NO_SUCH;
        if (out(what, 0, 1)) return BAD_VALUE;
        int[] coins = new int[100];
        for (int limit = 0; limit < 100; limit++) {
            Game then = new Game(game);
            then.who.get(player).limit = limit;
            then.finish();
            coins[limit] = then.who.get(player).coins;
        }
        int most = Arrays.stream(coins).max().getAsInt();
        int least = 0;
        while (coins[least] != most) least++;
        return what == 0 ? least : most - game.who.get(player).coins;
    }

    int coinsBehind(int player, int rounds) {
        if (out(player, 0, 4)) return NO_SUCH;
        return out(rounds, 1, 100) ? BAD_VALUE : behind(rounds).who.get(player).coins;
    }

    int richest(int rounds) {
        if (out(rounds, 1, 100)) return BAD_VALUE;
        Game then = behind(rounds);
        List<Integer> richest = new ArrayList<>(then.order);
        richest.sort(Comparator.comparingInt(number -> -then.who.get(number).coins));
        return richest.get(0);
    }

    int movesLeft() {
        if (game.ring == null) return NOT_POSSIBLE;
        Game then = new Game(game);
        int moves = 0;
        for (; then.ring != null; moves++) then.act();
        return moves;
    }

    int put(long characters) {
        StringBuilder text = new StringBuilder();
        String bits = String.format("%64s", Long.toBinaryString(characters)).replace(' ', '0');
        boolean ahead = true;
        for (int from = 0; from < 64; from += 8) {
            int code = Integer.parseInt(bits.substring(from, from + 8), 2);
            if (code == 0 && ahead) continue;
            ahead = false;
            if (out(code, 33, 126)) return BAD_VALUE;
            text.append((char) code);
        }
        if (ahead) return BAD_VALUE;
        if (pad.length() + text.length() > 60) return TOO_MANY;
        pad += text;
        return pad.length();
    }

    int wipe() {
        int length = pad.length();
        pad = "";
        return length;
    }

    /** A text whose reading hits its own end could stand with more characters; any other one has its fault inside. */
    int fault() {
        for (int length = 0; length <= pad.length(); length++) {
            Matcher matcher = TEXT.matcher(pad.substring(0, length));
            boolean whole = matcher.matches();
            if (!whole && !matcher.hitEnd()) return length - 1;
            if (length == pad.length()) return whole ? NONE : length;
        }
        return NONE;
    }

    int undo() {
        if (history.isEmpty()) return NOT_POSSIBLE;
        game = history.removeLast();
        return history.size();
    }

    int save(int slot) {
        if (out(slot, 0, 1)) return BAD_VALUE;
        slots[slot] = new Game(game);
        return game.coinsOfAll();
    }

    int restore(int slot) {
        if (out(slot, 0, 1)) return BAD_VALUE;
        if (slots[slot] == null) return NOT_POSSIBLE;
        Game before = game;
        game = new Game(slots[slot]);
        return kept(game.coinsOfAll(), before);
    }
}

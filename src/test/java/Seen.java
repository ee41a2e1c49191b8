import java.util.Arrays;

/** What can be seen of an object without changing it. */
final class Seen {
    private Seen() {
    }

    static int[] all(TurnBids x) {
        int[] state = state(x);
        int[] seen = Arrays.copyOf(state, state.length + 3);
        seen[state.length] = x.count(14);
        seen[state.length + 1] = x.count(15);
        seen[state.length + 2] = x.fault();
        return seen;
    }

    /** All but the pad and the history. */
    static int[] state(TurnBids x) {
        int[] seen = new int[5 * 8 + 5 + 14 + 5];
        int filled = 0;
        for (int player = 0; player < 5; player++) {
            for (int what = 0; what < 8; what++) seen[filled++] = x.player(player, what);
        }
        for (int place = 0; place < 5; place++) seen[filled++] = x.at(place);
        for (int what = 0; what < 14; what++) seen[filled++] = x.count(what);
        for (int prize = 0; prize < 5; prize++) seen[filled++] = x.prizeOf(prize);
        return seen;
    }

    /** One thing about each player. */
    static int[] players(TurnBids x, int what) {
        int[] seen = new int[5];
        for (int player = 0; player < 5; player++) seen[player] = x.player(player, what);
        return seen;
    }

    static int[] order(TurnBids x) {
        int[] seen = new int[5];
        for (int place = 0; place < 5; place++) seen[place] = x.at(place);
        return seen;
    }

    /** Puts a text on the pad, eight characters a call, and answers the last call's answer. */
    static int put(TurnBids x, String text) {
        int answer = 0;
        for (int from = 0; from < text.length(); from += 8) {
            answer = x.put(packed(text.substring(from, Math.min(from + 8, text.length()))));
        }
        return answer;
    }

    static long packed(String text) {
        long packed = 0;
        for (char sign : text.toCharArray()) packed = packed << 8 | sign;
        return packed;
    }
}

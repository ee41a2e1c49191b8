import java.util.Set;
import java.util.TreeSet;

/** Numbers that a range does not hold. */
final class Beyond {
    private Beyond() {
    }

    /** Those next to it, those that a cut to fewer bits would bring into it, answers that are no numbers, and the farthest. */
    static int[] range(int least, int most) {
        long[] tried = {least - 1L, least - 2L, most + 1L, most + 2L, least - 256L, least + 256L, most + 256L,
            least - 65536L, least + 65536L, most + 65536L, least + (1L << 24), (1L << 30) + most, least + (1L << 31) - 1,
            -(long) most - 1, TurnBids.NONE, TurnBids.NO_SUCH, Integer.MIN_VALUE, Integer.MIN_VALUE + 1L,
            Integer.MIN_VALUE + (long) most, Integer.MAX_VALUE - 1L, Integer.MAX_VALUE};
        Set<Integer> beyond = new TreeSet<>();
        for (long number : tried) {
            boolean isInt = number >= Integer.MIN_VALUE && number <= Integer.MAX_VALUE;
            if (isInt && (number < least || number > most)) beyond.add((int) number);
        }
        return beyond.stream().mapToInt(number -> number).toArray();
    }
}

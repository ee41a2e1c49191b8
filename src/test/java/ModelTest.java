import java.util.Random;

/** Long runs of calls by chance (always the same ones), held against the model. */
public final class ModelTest {
    private static final int RUNS = 1500, CALLS = 512;
    private static final int CHANGES = 11, METHODS = 26;
    private static final String SIGNS = "+-*!,,,,0123456789";

    private final Due due = new Due("ModelTest");
    private final Random random = new Random(20261119);
    private TurnBids x;
    private Model model;

    public static void main(String[] args) {
        ModelTest test = new ModelTest();
        for (int run = 0; run < RUNS; run++) test.run(run);
        test.due.end();
    }

    private void run(int run) {
        x = new TurnBids();
        model = new Model();
        // Some runs stay near the ends of the ranges, some call mostly what the promises call changes.
        int wild = random.nextInt(4);
        int changes = random.nextInt(4);
        for (int call = 0; call < CALLS; call++) {
            int method = random.nextInt(4) < changes ? random.nextInt(CHANGES) : random.nextInt(METHODS);
            call("run " + run + ", call " + call, method, random.nextInt(12) < wild);
        }
    }

    private int number(int least, int most, boolean wild) {
        int[] edges = {least, most, least - 1, most + 1, -1, 0, Integer.MIN_VALUE, Integer.MAX_VALUE};
        return wild ? edges[random.nextInt(edges.length)] : least + random.nextInt(most - least + 1);
    }

    private int player(boolean wild) {
        return number(0, 4, wild);
    }

    private int bidCoins(boolean wild) {
        int near = model.count(7) == Model.NONE ? 0 : model.count(7);
        return wild ? number(0, 9999, true) : near - 1 + random.nextInt(random.nextInt(6) == 0 ? 40 : 5);
    }

    private int coins(boolean wild) {
        int[] most = {10, 30, 120, 9999};
        return random.nextInt(10) == 0 ? 9990 + random.nextInt(10) : number(0, wild ? 9999 : most[random.nextInt(4)], wild);
    }

    private long characters(boolean wild) {
        if (wild) return random.nextLong() >>> 8 * random.nextInt(9) << 8 * random.nextInt(2);
        StringBuilder text = new StringBuilder();
        for (int more = 1 + random.nextInt(8); more > 0; more--) {
            boolean likely = text.length() % 2 == model.count(14) % 2;
            String signs = likely ? "+-*!0123456789" : SIGNS;
            text.append(random.nextInt(40) == 0 ? (char) (33 + random.nextInt(94)) : signs.charAt(random.nextInt(signs.length())));
        }
        return Seen.packed(text.toString());
    }

    private void call(String name, int method, boolean wild) {
        int a;
        int b;
        switch (method) {
            case 0 -> {
                a = number(0, 3, wild);
                b = number(a == 0 ? 1 : 0, a == 0 ? 9 : a == 1 ? 20 : 100, random.nextInt(6) == 0);
                due.is(name + " set(" + a + ", " + b + ")", x.set(a, b), model.set(a, b));
            }
            case 1 -> {
                a = player(wild);
                b = coins(wild);
                due.is(name + " coins(" + a + ", " + b + ")", x.coins(a, b), model.coins(a, b));
            }
            case 2 -> {
                a = player(wild);
                b = number(0, random.nextBoolean() ? 99 : 25, wild);
                due.is(name + " limit(" + a + ", " + b + ")", x.limit(a, b), model.limit(a, b));
            }
            case 3 -> {
                a = player(wild);
                b = number(0, random.nextBoolean() ? 99 : 9, wild);
                due.is(name + " prize(" + a + ", " + b + ")", x.prize(a, b), model.prize(a, b));
            }
            case 4 -> due.is(name + " begin()", x.begin(), model.begin());
            case 5, 6 -> {
                a = bidCoins(wild);
                due.is(name + " bid(" + a + ")", x.bid(a), model.bid(a));
            }
            case 7 -> due.is(name + " drop()", x.drop(), model.drop());
            case 8 -> due.is(name + " act()", x.act(), model.act());
            case 9 -> {
                if (random.nextInt(3) == 0) due.is(name + " finish()", x.finish(), model.finish());
            }
            case 10 -> due.is(name + " run()", x.run(), model.run());
            default -> ask(name, method, wild);
        }
    }

    private void ask(String name, int method, boolean wild) {
        int a = player(wild);
        int b;
        switch (method) {
            case 11 -> {
                b = number(0, 7, wild);
                due.is(name + " player(" + a + ", " + b + ")", x.player(a, b), model.player(a, b));
            }
            case 12 -> due.is(name + " at(" + a + ")", x.at(a), model.at(a));
            case 13, 14 -> {
                b = number(0, 15, wild);
                due.is(name + " count(" + b + ")", x.count(b), model.count(b));
            }
            case 15 -> due.is(name + " prizeOf(" + a + ")", x.prizeOf(a), model.prizeOf(a));
            case 16 -> {
                b = number(0, 3, wild);
                due.is(name + " ifFinished(" + a + ", " + b + ")", x.ifFinished(a, b), model.ifFinished(a, b));
            }
            case 17 -> {
                b = number(0, 1, wild);
                due.is(name + " bestLimit(" + a + ", " + b + ")", x.bestLimit(a, b), model.bestLimit(a, b));
            }
            case 18 -> {
                b = number(1, random.nextBoolean() ? 100 : 4, wild);
                due.is(name + " coinsBehind(" + a + ", " + b + ")", x.coinsBehind(a, b), model.coinsBehind(a, b));
            }
            case 19 -> {
                b = number(1, random.nextBoolean() ? 100 : 4, wild);
                due.is(name + " richest(" + b + ")", x.richest(b), model.richest(b));
            }
            case 20 -> due.is(name + " movesLeft()", x.movesLeft(), model.movesLeft());
            default -> write(name, method, wild);
        }
    }

    private void write(String name, int method, boolean wild) {
        int slot = number(0, 1, wild);
        switch (method) {
            case 21 -> {
                long characters = characters(wild);
                due.is(name + " put(" + characters + "L)", x.put(characters), model.put(characters));
            }
            case 22 -> {
                if (model.fault() < 0 || random.nextBoolean()) due.is(name + " fault()", x.fault(), model.fault());
                else due.is(name + " wipe()", x.wipe(), model.wipe());
            }
            case 23 -> due.is(name + " undo()", x.undo(), model.undo());
            case 24 -> due.is(name + " save(" + slot + ")", x.save(slot), model.save(slot));
            default -> due.is(name + " restore(" + slot + ")", x.restore(slot), model.restore(slot));
        }
    }
}

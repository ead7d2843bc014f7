import java.util.Random;

/** Runs of random calls, each answered by the class and by PlainGrid: all promises together. */
public final class CompareTest {
    private static final int SMALL_RUNS = 700;
    private static final int GREAT_RUNS = 12;
    private static final long THREW_NO_SUCH = Long.MIN_VALUE;
    private static final long THREW_ILLEGAL = Long.MIN_VALUE + 1;
    private static final long THREW_ELSE = Long.MIN_VALUE + 2;

    private final Random random;
    private final String name;
    private final int x;
    private final int y;
    private final int layers;
    private final GridRipUp own;
    private final PlainGrid plain;

    private CompareTest(String name, long seed, int mostSide, int mostLayers) {
        this.name = name + seed;
        random = new Random(seed);
        x = 1 + random.nextInt(mostSide);
        y = 1 + random.nextInt(mostSide);
        layers = 1 + random.nextInt(mostLayers);
        long drawSeed = random.nextLong();
        own = new GridRipUp(x, y, layers, drawSeed);
        plain = new PlainGrid(x, y, layers, drawSeed);
    }

    public static void main(String[] args) {
        for (int run = 0; run < SMALL_RUNS; run++) {
            CompareTest test = new CompareTest("small run ", run, 5, 3);
            test.calls(60, 20);
            test.compareAll();
        }
        for (int run = 0; run < GREAT_RUNS; run++) {
            CompareTest test = new CompareTest("great run ", run, 16, 4);
            test.calls(90, 2);
            test.compareAll();
        }
        Check.end();
    }

    private static long answer(Check.Call call) {
        try {
            return call.answer();
        } catch (RuntimeException e) {
            Class<?> thrown = e.getClass();
            return thrown == IndexOutOfBoundsException.class ? THREW_NO_SUCH
                    : thrown == IllegalArgumentException.class ? THREW_ILLEGAL : THREW_ELSE;
        }
    }

    private void same(String call, Check.Call got, Check.Call want) {
        Check.due(name + ": " + call, answer(got), answer(want));
    }

    // Mostly within 0 .. bound - 1, at times just outside.
    private int some(int bound) {
        return random.nextInt(25) == 0 ? (random.nextBoolean() ? -1 : bound) : random.nextInt(bound);
    }

    private void calls(int count, int mostRounds) {
        for (int c = 0; c < count; c++) {
            int kind = random.nextInt(100);
            if (kind < 12) {
                bar();
            } else if (kind < 22) {
                same("net()", own::net, plain::net);
            } else if (kind < 65) {
                pin();
            } else if (kind < 75) {
                cost();
            } else if (kind < 85) {
                int rounds = random.nextInt(10) == 0 ? 21 * random.nextInt(2) : 1 + random.nextInt(mostRounds);
                same("run(" + rounds + ")", () -> own.run(rounds), () -> plain.run(rounds));
            } else {
                compareNet(some(Math.max(1, plain.nets.size())));
            }
        }
        same("run(" + mostRounds + ")", () -> own.run(mostRounds), () -> plain.run(mostRounds));
    }

    private void bar() {
        int l = some(layers);
        int i = some(x);
        int j = some(y);
        same("bar", () -> own.bar(l, i, j) ? 1 : 0, () -> plain.bar(l, i, j) ? 1 : 0);
    }

    private void pin() {
        int n = some(Math.max(1, plain.nets.size()));
        int l = some(layers);
        int i = some(x);
        int j = some(y);
        same("pin", () -> own.pin(n, l, i, j) ? 1 : 0, () -> plain.pin(n, l, i, j) ? 1 : 0);
    }

    private void cost() {
        int l = some(layers);
        int bound = random.nextBoolean() ? 4 : 51;
        int across = some(bound);
        int via = some(bound);
        int near = some(bound);
        same("cost", () -> own.cost(l, across, via, near) ? 1 : 0, () -> plain.cost(l, across, via, near) ? 1 : 0);
    }

    private void compareNet(int n) {
        String net = "(" + n + ")";
        same("joined" + net, () -> own.joined(n) ? 1 : 0, () -> plain.get(n).tree != null ? 1 : 0);
        same("costOf" + net, () -> own.costOf(n), () -> plain.costOf(n));
        same("ripped" + net, () -> own.ripped(n), () -> plain.get(n).ripped);
        same("band" + net, () -> own.band(n) ? 1 : 0, () -> plain.band(n) ? 1 : 0);
        for (int k = -1; k < 17; k++) {
            int at = k;
            same("corridor" + net, () -> own.corridor(n, at), () -> plain.corridor(n, at));
        }
        for (int k = -1; k < 13; k++) {
            int at = k;
            same("blocking" + net, () -> own.blocking(n, at), () -> plain.blocking(n, at));
        }
        boolean led = n >= 0 && n < plain.nets.size() && plain.get(n).tree != null;
        int size = led ? plain.get(n).tree.size() : 0;
        for (int k = -1; k <= size; k++) {
            for (int what = -1; what < 4; what++) {
                int at = k;
                int which = what;
                same("piece" + net, () -> own.piece(n, at, which), () -> plain.piece(n, at, which));
            }
        }
    }

    private void compareAll() {
        for (int n = -1; n <= plain.nets.size(); n++) {
            compareNet(n);
        }
        for (int k = -1; k < 13; k++) {
            int at = k;
            same("open(" + k + ")", () -> own.open(at), () -> plain.open(at));
        }
        same("round()", own::round, () -> plain.rounds);
        for (int l = -1; l <= layers; l++) {
            for (int i = -1; i <= x; i++) {
                for (int j = -1; j <= y; j++) {
                    int atL = l;
                    int atI = i;
                    int atJ = j;
                    same("history", () -> own.history(atL, atI, atJ), () -> plain.history[plain.number(atL, atI, atJ)]);
                }
            }
        }
        for (int l = 0; l < layers; l++) {
            for (int i = 0; i < x; i++) {
                for (int j = 0; j < y; j++) {
                    int atL = l;
                    int atI = i;
                    int atJ = j;
                    same("bar at last", () -> own.bar(atL, atI, atJ) ? 1 : 0, () -> plain.bar(atL, atI, atJ) ? 1 : 0);
                }
            }
        }
    }
}

import java.math.BigInteger;
import java.util.ArrayList;
import java.util.Collections;
import java.util.List;

/** The seeded orders: a DRAW that wraps around, and what is drawn without sign. */
public final class DrawTest {
    private static final BigInteger FACTOR = new BigInteger("6364136223846793005");
    private static final BigInteger TERM = new BigInteger("1442695040888963407");
    private static final BigInteger WRAP = BigInteger.ONE.shiftLeft(64);
    private static final int NEAR = 50;

    public static void main(String[] args) {
        for (long seed : seeds()) {
            for (int count = 2; count <= 12; count++) {
                ordersOf(seed, count, 1);
                ordersOf(seed, count, count - 1);
            }
            ordersOf(seed, 12, 5);
        }
        theSeedsReachTheEdges();
        theSeedIsTheFirstOfEachGrid();
        oneOpenNetDrawsNothing();
        Check.end();
    }

    /** The seed whose first DRAW makes a given s. */
    private static long seedBefore(BigInteger s) {
        return s.subtract(TERM).multiply(FACTOR.modInverse(WRAP)).mod(WRAP).longValue();
    }

    private static long[] seeds() {
        return new long[] {0, 1, -1, 2, 12345, 1L << 31, 1L << 32, 1L << 33, -(1L << 33),
            Long.MAX_VALUE, Long.MIN_VALUE,
            // The first s is 0, the greatest with and without sign, and the least with sign.
            seedBefore(BigInteger.ZERO), seedBefore(BigInteger.ONE.shiftLeft(63).subtract(BigInteger.ONE)),
            seedBefore(WRAP.subtract(BigInteger.ONE)), seedBefore(BigInteger.ONE.shiftLeft(63)),
            // The first s is the last one for which 0 is drawn, and the first one for which 1 is.
            seedBefore(BigInteger.ONE.shiftLeft(33).subtract(BigInteger.ONE)),
            seedBefore(BigInteger.ONE.shiftLeft(33))};
    }

    /** Terms' DRAW, in numbers that do not wrap by themselves. */
    private static final class Draws {
        private BigInteger s;

        Draws(long seed) {
            s = BigInteger.valueOf(seed).mod(WRAP);
        }

        long next() {
            s = s.multiply(FACTOR).add(TERM).mod(WRAP);
            return s.shiftRight(33).longValueExact();
        }

        /** The order of a ROUND with so many OPEN nets, from 0 on. */
        List<Integer> order(int count) {
            List<Integer> order = new ArrayList<>();
            for (int n = 0; n < count; n++) {
                order.add(n);
            }
            for (int k = count - 1; k >= 1; k--) {
                Collections.swap(order, k, (int) (next() % (k + 1)));
            }
            return order;
        }
    }

    /** Nets that go along rows, side by side: what one costs tells which of the two beside it were LED before it. */
    private static final class Rows {
        final int count;
        final int[] rowOf;
        final GridRipUp grid;

        Rows(long seed, int count, int spread) {
            this.count = count;
            rowOf = new int[count];
            grid = new GridRipUp(5, count, 1, seed);
            grid.cost(0, 0, 0, NEAR);
            for (int n = 0; n < count; n++) {
                rowOf[n] = n * spread % count;
                grid.net();
                grid.pin(n, 0, 0, rowOf[n]);
                grid.pin(n, 0, 2, rowOf[n]);
            }
        }

        int besideIt(int net) {
            return rowOf[net] == 0 || rowOf[net] == count - 1 ? 1 : 2;
        }

        int ledBeside(int net, List<Integer> order) {
            int found = 0;
            for (int n : order.subList(0, order.indexOf(net))) {
                found += Math.abs(rowOf[n] - rowOf[net]) == 1 ? 1 : 0;
            }
            return found;
        }
    }

    // Two ROUNDS of all nets; between them one with a single OPEN net, and none when no net is OPEN.
    private static void ordersOf(long seed, int count, int spread) {
        String name = "seed " + seed + ", " + count + " nets, spread " + spread;
        Rows rows = new Rows(seed, count, spread);
        GridRipUp g = rows.grid;
        Draws draws = new Draws(seed);
        List<Integer> first = draws.order(count);
        Check.due(name + ": run(1)", g.run(1), 0);
        for (int n = 0; n < count; n++) {
            int near = rows.ledBeside(n, first) + rows.besideIt(n);
            Check.due(name + ": costOf(" + n + ")", g.costOf(n), 4 + NEAR * near);
        }
        g.run(20);
        g.pin(0, 0, 3, rows.rowOf[0]);
        g.run(20);
        g.pin(0, 0, 4, rows.rowOf[0]);
        for (int n = 1; n < count; n++) {
            g.pin(n, 0, 3, rows.rowOf[n]);
        }
        List<Integer> second = draws.order(count);
        Check.due(name + ": run(1) again", g.run(1), 0);
        for (int n = 0; n < count; n++) {
            int near = rows.ledBeside(n, second) + 2 * rows.besideIt(n);
            Check.due(name + ": costOf(" + n + ") again", g.costOf(n), (n == 0 ? 8 : 6) + NEAR * near);
        }
        Check.due(name + ": round()", g.round(), 3);
    }

    private static void theSeedsReachTheEdges() {
        boolean least = false;
        boolean greatest = false;
        for (long seed : seeds()) {
            long drawn = new Draws(seed).next();
            least |= drawn == 0;
            greatest |= drawn == Integer.MAX_VALUE;
        }
        Check.due("0 is drawn by some seed", least, true);
        Check.due("2147483647 is drawn by some seed", greatest, true);
    }

    /** Two nets that can only cross in one cell near the corner of a grid of any sides. */
    private static GridRipUp crossing(int x, int y, int layers, long seed) {
        GridRipUp g = new GridRipUp(x, y, layers, seed);
        int[][] pins = {{0, 1}, {2, 1}, {1, 0}, {1, 2}};
        int[][] corners = {{0, 0}, {2, 0}, {0, 2}, {2, 2}, {3, 1}, {1, 3}};
        g.net();
        g.net();
        for (int p = 0; p < 4; p++) {
            g.pin(p / 2, 0, pins[p][0], pins[p][1]);
            if (layers > 1) {
                g.bar(1, pins[p][0], pins[p][1]);
            }
        }
        for (int[] corner : corners) {
            if (corner[0] < x && corner[1] < y) {
                g.bar(0, corner[0], corner[1]);
            }
        }
        if (layers > 1) {
            g.bar(1, 1, 1);
        }
        return g;
    }

    // Terms: "s, at first the seed": whatever the grid's sides are.
    private static void theSeedIsTheFirstOfEachGrid() {
        long[] some = {0, 1, -1, 77, Long.MIN_VALUE, 1L << 33};
        for (int sides = 0; sides < 14 * 14 * 4; sides++) {
            int x = 3 + sides % 14;
            int y = 3 + sides / 14 % 14;
            int layers = 1 + sides / 196;
            for (long seed : some) {
                int later = new Draws(seed).order(2).get(1);
                String name = "seed " + seed + " on " + x + ", " + y + ", " + layers;
                GridRipUp g = crossing(x, y, layers, seed);
                Check.due(name + ": run(1)", g.run(1), 1);
                Check.due(name + ": the later one is LED", g.joined(later), true);
                Check.due(name + ": the other was ripped", g.ripped(1 - later), 1);
            }
        }
    }

    // Terms: "for k from their number less 1 down to 1": a single one is not drawn for, however many ROUNDS.
    private static void oneOpenNetDrawsNothing() {
        for (long seed : seeds()) {
            GridRipUp g = new GridRipUp(5, 3, 1, seed);
            g.net();
            g.net();
            g.net();
            g.bar(0, 3, 0);
            g.bar(0, 3, 1);
            g.bar(0, 3, 2);
            g.pin(2, 0, 4, 0);
            g.pin(2, 0, 2, 2);
            Check.due("alone behind bars: run(20)", g.run(20), 1);
            g.pin(0, 0, 0, 1);
            g.pin(0, 0, 2, 1);
            g.pin(1, 0, 1, 0);
            g.pin(1, 0, 1, 2);
            List<Integer> order = new Draws(seed).order(3);
            int later = order.indexOf(0) > order.indexOf(1) ? 0 : 1;
            Check.due("seed " + seed + ": run(1) of three", g.run(1), 2);
            Check.due("seed " + seed + ": the later one is LED", g.joined(later), true);
            Check.due("seed " + seed + ": the other was ripped", g.ripped(1 - later), 1);
        }
    }
}

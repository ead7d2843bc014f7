/** Promises 9 to 12 and 15: ripped, history, open, blocking and round; and the seeded orders. */
public final class RipTest {
    private static final int NONE = GridRipUp.NONE;

    public static void main(String[] args) {
        seededOrders();
        historyIsPaid();
        historyIsPaidInAFreeSearch();
        historyStays();
        historyOfEachLayer();
        piecesBehindRips();
        nearnessIsPaidInARippingSearch();
        freeWaysComeFirst();
        twoCellsRipOnce();
        twoNetsAreRippedByOneWay();
        whatIsRippedInVain();
        open();
        blocking();
        blockingOfTheFreeSearch();
        blockingOverLayers();
        blockingChanges();
        rounds();
        wrongInputs();
        Check.end();
    }

    /** Two nets that cross in the one cell that both need: the later one of a ROUND rips the other. */
    private static GridRipUp crossing(long seed) {
        GridRipUp g = new GridRipUp(3, 3, 1, seed);
        g.net();
        g.net();
        g.pin(0, 0, 0, 1);
        g.pin(0, 0, 2, 1);
        g.pin(1, 0, 1, 0);
        g.pin(1, 0, 1, 2);
        return g;
    }

    private static void seededOrders() {
        long[] seeds = {0, 1, 2, 3, 4, 5, 6, 7, 99, -1, -2, 1L << 40, Long.MAX_VALUE, Long.MIN_VALUE};
        int swapped = 0;
        for (long seed : seeds) {
            long drawn = (seed * 6364136223846793005L + 1442695040888963407L) >>> 33;
            // With two nets, 0 drawn brings the net 1 to the front.
            int later = drawn % 2 == 0 ? 0 : 1;
            swapped += 1 - later;
            GridRipUp g = crossing(seed);
            Check.due("seed " + seed + ": run(1)", g.run(1), 1);
            Check.due("seed " + seed + ": the OPEN one", g.open(0), 1 - later);
            Check.due("seed " + seed + ": it was ripped", g.ripped(1 - later), 1);
            Check.due("seed " + seed + ": the other was not", g.ripped(later), 0);
            Check.due("seed " + seed + ": LED by ripping", g.costOf(later), 104);
            // One OPEN net needs no draw: now they take turns.
            Check.due("seed " + seed + ": run(1) again", g.run(1), 1);
            Check.due("seed " + seed + ": the other is OPEN", g.open(0), later);
        }
        Check.due("both orders were seen", swapped > 0 && swapped < seeds.length, true);
    }

    private static void historyIsPaid() {
        GridRipUp g = crossing(0L);
        for (int r = 1; r <= 6; r++) {
            g.run(1);
            Check.due("the crossing's HISTORY", g.history(0, 1, 1), r);
            int led = g.joined(0) ? 0 : 1;
            Check.due("COST with the HISTORY before", g.costOf(led), 104 + r - 1);
            Check.due("ripped both", g.ripped(0) + g.ripped(1), r);
            Check.due("a pin's HISTORY", g.history(0, 1, 0) + g.history(0, 0, 1), 0);
            Check.due("what is ripped has no COST", g.costOf(1 - led), NONE);
            Check.due("what is ripped is not BLOCKED", g.blocking(1 - led, 0), NONE);
        }
    }

    /** Net 0 gets a pin behind bars: in an order in which it fails first, net 1 is led by a FREE search. */
    private static void historyIsPaidInAFreeSearch() {
        GridRipUp g = new GridRipUp(5, 3, 1, 0L);
        g.net();
        g.net();
        for (int j = 0; j < 3; j++) {
            g.bar(0, 3, j);
        }
        g.pin(0, 0, 0, 1);
        g.pin(0, 0, 2, 1);
        g.pin(1, 0, 1, 0);
        g.pin(1, 0, 1, 2);
        g.run(3);
        Check.due("three rips", g.history(0, 1, 1), 3);
        g.pin(0, 0, 4, 1);
        g.pin(1, 0, 0, 0);
        for (int r = 0; r < 30 && !g.joined(1); r++) {
            g.run(1);
        }
        Check.due("net 1 is LED in the end", g.joined(1), true);
        Check.due("3 steps and the HISTORY", g.costOf(1), 6 + g.history(0, 1, 1));
        Check.due("net 0 is BLOCKED", g.blocking(0, 0), 1);
    }

    // Terms: HISTORY "grows by 1" behind a RIPPING search, and nothing else changes it.
    private static void historyStays() {
        GridRipUp g = crossing(0L);
        g.run(5);
        Check.due("five rips", g.history(0, 1, 1), 5);
        int led = g.joined(0) ? 0 : 1;
        Check.due("other costs", g.cost(0, 7, 7, 7) && g.cost(0, 0, 0, 0), true);
        Check.due("a new net", g.net(), 2);
        Check.due("behind costs and a net", g.history(0, 1, 1), 5);
        Check.due("a pin on the crossing", g.pin(led, 0, 1, 1), true);
        Check.due("behind the pin", g.history(0, 1, 1), 5);
        Check.due("the pin keeps the other net out: run(2)", g.run(2), 1);
        Check.due("2 steps and the HISTORY", g.costOf(led), 4 + 5);
        Check.due("behind ROUNDS that rip nothing", g.history(0, 1, 1), 5);

        GridRipUp barred = crossing(0L);
        barred.run(3);
        barred.pin(barred.joined(0) ? 0 : 1, 0, 0, 0);
        Check.due("given up", barred.history(0, 1, 1), 3);
        Check.due("bar of the crossing", barred.bar(0, 1, 1), true);
        Check.due("behind the bar", barred.history(0, 1, 1), 3);
    }

    // Promise 10: "A cell's HISTORY": not that of the cells above and below it.
    private static void historyOfEachLayer() {
        for (int layer = 0; layer < 4; layer++) {
            GridRipUp g = new GridRipUp(3, 3, 4, 0L);
            g.net();
            g.net();
            g.pin(0, layer, 0, 1);
            g.pin(0, layer, 2, 1);
            g.pin(1, layer, 1, 0);
            g.pin(1, layer, 1, 2);
            for (int c = 0; c < 36; c++) {
                if (c / 9 != layer) {
                    g.bar(c / 9, c % 3, c / 3 % 3);
                }
            }
            g.run(4);
            for (int c = 0; c < 36; c++) {
                int want = c == layer * 9 + 4 ? 4 : 0;
                Check.due("on layer " + layer + ": history of " + c, g.history(c / 9, c % 3, c / 3 % 3), want);
            }
        }
    }

    /** The nets take turns: the one that is LED has the pieces of its last way, the other has none. */
    private static void piecesBehindRips() {
        GridRipUp g = crossing(0L);
        for (int r = 0; r < 6; r++) {
            g.run(1);
            int led = g.joined(0) ? 0 : 1;
            int[] iOfPieces = led == 0 ? new int[] {0, 2, 1} : new int[] {1, 1, 1};
            int[] jOfPieces = led == 0 ? new int[] {1, 1, 1} : new int[] {0, 2, 1};
            for (int k = 0; k < 3; k++) {
                Check.due("turn " + r + ": i of piece " + k, g.piece(led, k, 1), iOfPieces[k]);
                Check.due("turn " + r + ": j of piece " + k, g.piece(led, k, 2), jOfPieces[k]);
            }
            Check.noSuch("turn " + r + ": a fourth piece", () -> g.piece(led, 3, 0));
            Check.noSuch("turn " + r + ": a piece of the ripped one", () -> g.piece(1 - led, 0, 0));
        }
    }

    /** The crossing lies beside two pins of the other net; the end lies beside the crossing, HELD still. */
    private static void nearnessIsPaidInARippingSearch() {
        GridRipUp g = crossing(0L);
        g.cost(0, 0, 0, 50);
        g.run(1);
        Check.due("ripping near pins and ways: costOf", g.costOf(g.joined(0) ? 0 : 1), 104 + 3 * 50);
    }

    /** A way of 8 dear steps is free, one of 2 dear steps would rip: the free one is taken. */
    private static void freeWaysComeFirst() {
        GridRipUp g = new GridRipUp(3, 5, 1, 0L);
        g.cost(0, 50, 0, 0);
        g.net();
        g.pin(0, 0, 1, 0);
        g.pin(0, 0, 1, 3);
        g.run(1);
        g.net();
        g.pin(1, 0, 0, 0);
        g.pin(1, 0, 2, 0);
        Check.due("free first: run(1)", g.run(1), 0);
        Check.due("free first: costOf(1)", g.costOf(1), 8 * 52 + 4);
        Check.due("free first: ripped(0)", g.ripped(0), 0);
    }

    /** Both nets need the same two cells. */
    private static void twoCellsRipOnce() {
        for (long seed = 0; seed < 4; seed++) {
            GridRipUp g = new GridRipUp(4, 3, 1, seed);
            g.net();
            g.net();
            g.pin(0, 0, 0, 1);
            g.pin(0, 0, 3, 1);
            g.pin(1, 0, 1, 0);
            g.pin(1, 0, 2, 2);
            g.bar(0, 2, 0);
            g.bar(0, 1, 2);
            g.run(1);
            Check.due("two cells: ripped", g.ripped(0) + g.ripped(1), 1);
            Check.due("two cells: HISTORY of one", g.history(0, 1, 1), 1);
            Check.due("two cells: HISTORY of the other", g.history(0, 2, 1), 1);
            Check.due("two cells: HISTORY of a pin", g.history(0, 2, 2) + g.history(0, 0, 1), 0);
            Check.due("two cells: COST", g.costOf(g.joined(0) ? 0 : 1), 206);
        }
    }

    private static void twoNetsAreRippedByOneWay() {
        GridRipUp g = new GridRipUp(5, 3, 1, 0L);
        for (int n = 0; n < 3; n++) {
            g.net();
        }
        g.pin(0, 0, 1, 0);
        g.pin(0, 0, 1, 2);
        g.pin(2, 0, 3, 0);
        g.pin(2, 0, 3, 2);
        g.run(1);
        g.pin(1, 0, 0, 1);
        g.pin(1, 0, 4, 1);
        Check.due("two nets: run(1)", g.run(1), 2);
        Check.due("two nets: costOf(1)", g.costOf(1), 208);
        Check.due("two nets: ripped(0)", g.ripped(0), 1);
        Check.due("two nets: ripped(2)", g.ripped(2), 1);
        Check.due("two nets: open(0)", g.open(0), 0);
        Check.due("two nets: open(1)", g.open(1), 2);
        for (int i = 0; i < 5; i++) {
            Check.due("two nets: history of " + i, g.history(0, i, 1), i == 1 || i == 3 ? 1 : 0);
        }
    }

    /** A net that joins one pin by ripping and then comes to no other stays OPEN: the ripped one, too. */
    private static void whatIsRippedInVain() {
        GridRipUp g = new GridRipUp(5, 3, 1, 0L);
        g.net();
        g.pin(0, 0, 1, 0);
        g.pin(0, 0, 1, 2);
        g.run(1);
        g.net();
        g.pin(1, 0, 0, 1);
        g.pin(1, 0, 2, 1);
        g.pin(1, 0, 4, 1);
        g.bar(0, 3, 0);
        g.bar(0, 3, 1);
        g.bar(0, 3, 2);
        Check.due("in vain: run(1)", g.run(1), 2);
        Check.due("in vain: ripped(0)", g.ripped(0), 1);
        Check.due("in vain: history", g.history(0, 1, 1), 1);
        Check.due("in vain: joined(0)", g.joined(0), false);
        Check.due("in vain: joined(1)", g.joined(1), false);
        Check.due("in vain: costOf(1)", g.costOf(1), NONE);
        Check.due("in vain: blocking(1, 0)", g.blocking(1, 0), 0);
        Check.due("in vain: blocking(1, 1)", g.blocking(1, 1), NONE);
        Check.due("in vain: HOLDS its pins alone", g.bar(0, 1, 1), true);
    }

    private static void open() {
        GridRipUp g = new GridRipUp(6, 2, 1, 0L);
        for (int n = 0; n < 4; n++) {
            g.net();
        }
        g.pin(3, 0, 5, 0);
        g.pin(1, 0, 1, 0);
        g.pin(0, 0, 0, 0);
        Check.due("open(0)", g.open(0), 0);
        Check.due("open(1)", g.open(1), 1);
        Check.due("open(2), a net without pins between", g.open(2), 3);
        Check.due("open(3)", g.open(3), NONE);
        Check.due("open(-1)", g.open(-1), NONE);
        Check.due("open(max)", g.open(Integer.MAX_VALUE), NONE);
        Check.due("open(min)", g.open(Integer.MIN_VALUE), NONE);
        g.run(1);
        Check.due("open(0) when all are LED", g.open(0), NONE);
        g.pin(1, 0, 1, 1);
        Check.due("open(0) of one", g.open(0), 1);
        Check.due("open(1) of one", g.open(1), NONE);
    }

    private static void blocking() {
        GridRipUp g = new GridRipUp(6, 3, 1, 0L);
        for (int n = 0; n < 5; n++) {
            g.net();
        }
        for (int j = 0; j < 3; j++) {
            g.bar(0, 4, j);
        }
        g.pin(2, 0, 1, 1);
        g.pin(2, 0, 5, 1);
        g.pin(4, 0, 0, 0);
        g.pin(0, 0, 3, 0);
        g.pin(0, 0, 3, 2);
        g.pin(3, 0, 5, 0);
        Check.due("blocking before any run", g.blocking(2, 0), NONE);
        Check.due("run(1)", g.run(1), 1);
        Check.due("blocking(2, 0)", g.blocking(2, 0), 0);
        Check.due("blocking(2, 1)", g.blocking(2, 1), 4);
        Check.due("blocking(2, 2): not itself, nor the one behind the bars", g.blocking(2, 2), NONE);
        Check.due("blocking(2, -1)", g.blocking(2, -1), NONE);
        Check.due("blocking(2, max)", g.blocking(2, Integer.MAX_VALUE), NONE);
        Check.due("blocking of a LED net", g.blocking(0, 0), NONE);
        Check.due("blocking of a net without pins", g.blocking(1, 0), NONE);
    }

    /** A net whose cells only a RIPPING search comes beside does not block. */
    private static void blockingOfTheFreeSearch() {
        GridRipUp g = new GridRipUp(6, 3, 1, 0L);
        for (int n = 0; n < 3; n++) {
            g.net();
        }
        for (int j = 0; j < 3; j++) {
            g.bar(0, 4, j);
        }
        g.pin(1, 0, 1, 0);
        g.pin(1, 0, 1, 2);
        g.pin(2, 0, 3, 1);
        g.run(1);
        g.pin(0, 0, 0, 1);
        g.pin(0, 0, 5, 1);
        Check.due("behind a way: run(1)", g.run(1), 1);
        Check.due("behind a way: blocking(0, 0)", g.blocking(0, 0), 1);
        Check.due("behind a way: blocking(0, 1)", g.blocking(0, 1), NONE);
        Check.due("behind a way: ripped(1)", g.ripped(1), 0);
    }

    private static void blockingOverLayers() {
        GridRipUp g = new GridRipUp(1, 1, 3, 0L);
        g.net();
        g.net();
        g.pin(0, 0, 0, 0);
        g.pin(0, 2, 0, 0);
        g.pin(1, 1, 0, 0);
        Check.due("over layers: run(2)", g.run(2), 1);
        Check.due("over layers: blocking(0, 0)", g.blocking(0, 0), 1);

        GridRipUp down = new GridRipUp(1, 1, 3, 0L);
        down.net();
        down.net();
        down.pin(0, 2, 0, 0);
        down.pin(0, 0, 0, 0);
        down.pin(1, 1, 0, 0);
        down.run(1);
        Check.due("over layers, down: blocking(0, 0)", down.blocking(0, 0), 1);
    }

    private static void blockingChanges() {
        GridRipUp g = new GridRipUp(5, 1, 1, 0L);
        for (int n = 0; n < 3; n++) {
            g.net();
        }
        g.pin(0, 0, 2, 0);
        g.run(1);
        g.pin(1, 0, 3, 0);
        g.run(1);
        g.pin(0, 0, 4, 0);
        Check.due("last LED, now OPEN", g.blocking(0, 0), NONE);
        g.run(1);
        Check.due("blocked by one", g.blocking(0, 0), 1);
        Check.due("by one alone", g.blocking(0, 1), NONE);
        g.pin(2, 0, 1, 0);
        Check.due("a new neighbour before the run", g.blocking(0, 1), NONE);
        g.pin(0, 0, 0, 0);
        Check.due("a new pin does not change it", g.blocking(0, 0), 1);
        g.run(1);
        Check.due("and behind it", g.blocking(0, 1), 2);
    }

    private static void rounds() {
        GridRipUp g = crossing(0L);
        Check.due("round() at first", g.round(), 0);
        g.run(1);
        Check.due("round() behind run(1)", g.round(), 1);
        g.run(20);
        Check.due("round() behind run(20)", g.round(), 21);
        Check.illegal("run(0)", () -> g.run(0));
        Check.due("round() behind what threw", g.round(), 21);
    }

    private static void wrongInputs() {
        GridRipUp g = new GridRipUp(3, 2, 2, 0L);
        g.net();
        Check.due("ripped of a new net", g.ripped(0), 0);
        Check.noSuch("ripped(1)", () -> g.ripped(1));
        Check.noSuch("ripped(-1)", () -> g.ripped(-1));
        Check.noSuch("blocking(1, 0)", () -> g.blocking(1, 0));
        Check.noSuch("blocking(-1, -1)", () -> g.blocking(-1, -1));
        Check.noSuch("history(2, 0, 0)", () -> g.history(2, 0, 0));
        Check.noSuch("history(-1, 0, 0)", () -> g.history(-1, 0, 0));
        Check.noSuch("history(0, 3, 0)", () -> g.history(0, 3, 0));
        Check.noSuch("history(0, -1, 0)", () -> g.history(0, -1, 0));
        Check.noSuch("history(0, 0, 2)", () -> g.history(0, 0, 2));
        Check.noSuch("history(0, 0, -1)", () -> g.history(0, 0, -1));
    }
}

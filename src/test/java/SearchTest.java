/** Terms: "To LEAD a net", where FREE and RIPPING searches follow each other for one net of several pins. */
public final class SearchTest {
    private static final int NONE = GridRipUp.NONE;
    private static final int DEAR = 52;
    private static final int RIPPED_STEP = 102;

    public static void main(String[] args) {
        freePinsAreJoinedFirst();
        rippingBeginsAtTheWholeTree();
        eachPinIsLookedForFreely();
        whatIsRippedIsFreeForTheNextPin();
        twoPinsByRipping();
        blockedAtEachPin();
        blockedBesideTheWholeTree();
        firstOfEqualPins();
        firstOfEqualPinsByRipping();
        firstPinIsTheTree();
        costsAddUp();
        greatCosts();
        Check.end();
    }

    private static GridRipUp withNets(int x, int y, int layers, int nets) {
        GridRipUp g = new GridRipUp(x, y, layers, 0L);
        for (int n = 0; n < nets; n++) {
            g.net();
        }
        return g;
    }

    /** Five by five cells, steps along j are dear; net 0 is a wall from end to end with i 1. */
    private static GridRipUp walled() {
        GridRipUp g = withNets(5, 5, 1, 3);
        g.cost(0, DEAR - 2, 0, 0);
        g.pin(0, 0, 1, 0);
        g.pin(0, 0, 1, 4);
        g.run(1);
        Check.due("the wall: costOf(0)", g.costOf(0), 4 * DEAR);
        return g;
    }

    private static void wayOf(String name, GridRipUp g, int net, int... iAndJ) {
        int count = iAndJ.length / 2;
        for (int k = 0; k < count; k++) {
            Check.due(name + ": i of piece " + k, g.piece(net, k, 1), iAndJ[2 * k]);
            Check.due(name + ": j of piece " + k, g.piece(net, k, 2), iAndJ[2 * k + 1]);
        }
        Check.noSuch(name + ": no piece " + count, () -> g.piece(net, count, 0));
    }

    // "If no pin that is not in the tree has one: again": one that has a FREE way is joined first, however far.
    private static void freePinsAreJoinedFirst() {
        GridRipUp g = walled();
        g.pin(1, 0, 0, 1);
        g.pin(1, 0, 2, 1);
        g.pin(1, 0, 0, 4);
        Check.due("free first: run(1)", g.run(1), 1);
        Check.due("free first: costOf(1)", g.costOf(1), 3 * DEAR + RIPPED_STEP + 2);
        wayOf("free first", g, 1, 0, 1, 0, 4, 0, 3, 0, 2, 2, 1, 1, 1);
        Check.due("free first: ripped(0)", g.ripped(0), 1);
    }

    // "the least cost of steps from the tree": of all its cells, in a RIPPING search, too.
    private static void rippingBeginsAtTheWholeTree() {
        GridRipUp g = walled();
        g.pin(1, 0, 0, 1);
        g.pin(1, 0, 2, 3);
        g.pin(1, 0, 0, 4);
        g.run(1);
        Check.due("from the way: costOf(1)", g.costOf(1), 3 * DEAR + RIPPED_STEP + 2);
        wayOf("from the way", g, 1, 0, 1, 0, 4, 0, 3, 0, 2, 2, 3, 1, 3);
        Check.due("from the way: history", g.history(0, 1, 3), 1);
    }

    // "again and again": behind a RIPPING search the next one is FREE again, though ripping on would be cheaper.
    private static void eachPinIsLookedForFreely() {
        GridRipUp g = walled();
        g.pin(2, 0, 3, 0);
        g.pin(2, 0, 3, 3);
        g.run(1);
        g.pin(1, 0, 0, 1);
        g.pin(1, 0, 2, 1);
        g.pin(1, 0, 4, 1);
        Check.due("free again: run(1)", g.run(1), 1);
        Check.due("free again: ripped(0)", g.ripped(0), 1);
        Check.due("free again: ripped(2)", g.ripped(2), 0);
        Check.due("free again: costOf(1)", g.costOf(1), RIPPED_STEP + 2 + 6 * DEAR + 4);
        Check.due("free again: history of the gap", g.history(0, 3, 4) + g.history(0, 3, 1), 0);
    }

    // "they are OPEN, and HOLD their pins alone": at once, so the next search goes freely where they were.
    private static void whatIsRippedIsFreeForTheNextPin() {
        GridRipUp g = walled();
        g.pin(1, 0, 0, 1);
        g.pin(1, 0, 2, 1);
        g.pin(1, 0, 2, 3);
        for (int i = 2; i < 5; i++) {
            g.bar(0, i, 2);
        }
        Check.due("over the ripped wall: run(1)", g.run(1), 1);
        Check.due("over the ripped wall: ripped(0)", g.ripped(0), 1);
        Check.due("over the ripped wall: costOf(1)", g.costOf(1), RIPPED_STEP + 2 + 2 * DEAR + 2);
        wayOf("over the ripped wall", g, 1, 0, 1, 2, 1, 1, 1, 2, 3, 1, 3, 1, 2);
        Check.due("over the ripped wall: HISTORY where it was ripped", g.history(0, 1, 1), 1);
        Check.due("over the ripped wall: none where it was free", g.history(0, 1, 2) + g.history(0, 1, 3), 0);
    }

    /** Two walls, a pin behind each: two RIPPING searches of one net rip one net each. */
    private static void twoPinsByRipping() {
        GridRipUp g = walled();
        g.pin(2, 0, 3, 0);
        g.pin(2, 0, 3, 4);
        g.run(1);
        g.pin(1, 0, 0, 2);
        g.pin(1, 0, 4, 2);
        g.pin(1, 0, 2, 2);
        Check.due("two walls: run(1)", g.run(1), 2);
        wayOf("two walls", g, 1, 0, 2, 2, 2, 1, 2, 4, 2, 3, 2);
        Check.due("two walls: costOf(1)", g.costOf(1), 2 * (RIPPED_STEP + 2));
        Check.due("two walls: ripped(0)", g.ripped(0), 1);
        Check.due("two walls: ripped(2)", g.ripped(2), 1);
        Check.due("two walls: ripped(1)", g.ripped(1), 0);
    }

    // "If none has one then the net stays OPEN, and HOLDS its pins alone": whichever pin it is.
    private static void blockedAtEachPin() {
        for (int reached = 1; reached <= 4; reached++) {
            GridRipUp g = withNets(11, 1, 1, 1);
            g.bar(0, 9, 0);
            g.pin(0, 0, 0, 0);
            g.pin(0, 0, 10, 0);
            for (int p = 1; p < reached; p++) {
                g.pin(0, 0, 2 * p, 0);
            }
            String name = reached + " pins reached";
            Check.due(name + ": run(2)", g.run(2), 1);
            Check.due(name + ": joined(0)", g.joined(0), false);
            Check.due(name + ": costOf(0)", g.costOf(0), NONE);
            Check.due(name + ": open(0)", g.open(0), 0);
            Check.noSuch(name + ": no pieces", () -> g.piece(0, 0, 0));
            for (int i = 0; i < 11; i++) {
                boolean pin = i == 10 || i % 2 == 0 && i < 2 * reached;
                Check.due(name + ": bar of " + i, g.bar(0, i, 0), !pin && i != 9);
            }
        }
    }

    // "a neighbour of a cell with a DISTANCE in the FREE search (the tree's, too)": of the last one, from all the tree.
    private static void blockedBesideTheWholeTree() {
        GridRipUp g = withNets(5, 3, 1, 4);
        g.pin(0, 0, 0, 1);
        g.pin(0, 0, 2, 1);
        g.pin(0, 0, 4, 2);
        g.pin(1, 0, 1, 0);
        g.pin(2, 0, 3, 1);
        g.pin(3, 0, 4, 0);
        int[][] bars = {{0, 0}, {2, 0}, {3, 0}, {4, 1}, {0, 2}, {1, 2}, {2, 2}, {3, 2}};
        for (int[] bar : bars) {
            g.bar(0, bar[0], bar[1]);
        }
        Check.due("all the tree: run(1)", g.run(1), 1);
        Check.due("all the tree: beside its way", g.blocking(0, 0), 1);
        Check.due("all the tree: beside its second pin", g.blocking(0, 1), 2);
        Check.due("all the tree: no more", g.blocking(0, 2), NONE);
    }

    // "the pin of the least DISTANCE (of several the first one)": by the order of pins, not of cells.
    private static void firstOfEqualPins() {
        for (int first = 0; first <= 4; first += 4) {
            GridRipUp g = withNets(5, 1, 1, 1);
            g.pin(0, 0, 2, 0);
            g.pin(0, 0, first, 0);
            g.pin(0, 0, 4 - first, 0);
            g.run(1);
            int way = first == 0 ? 1 : 3;
            wayOf("first of equal pins, " + first, g, 0, 2, 0, first, 0, way, 0, 4 - first, 0, 4 - way, 0);
        }
        GridRipUp later = withNets(5, 5, 1, 1);
        later.pin(0, 0, 2, 2);
        later.pin(0, 0, 0, 0);
        later.pin(0, 0, 2, 4);
        later.pin(0, 0, 2, 0);
        later.run(1);
        Check.due("first of two equal ones behind a farther one: j", later.piece(0, 1, 2), 4);
    }

    /** Both pins lie behind walls, as far away: the first one is joined first. */
    private static void firstOfEqualPinsByRipping() {
        for (int first = 0; first <= 4; first += 4) {
            GridRipUp g = walled();
            g.pin(2, 0, 3, 0);
            g.pin(2, 0, 3, 4);
            g.run(1);
            g.pin(1, 0, 2, 2);
            g.pin(1, 0, first, 2);
            g.pin(1, 0, 4 - first, 2);
            g.run(1);
            int way = first == 0 ? 1 : 3;
            wayOf("first by ripping, " + first, g, 1, 2, 2, first, 2, way, 2, 4 - first, 2, 4 - way, 2);
        }
    }

    // "its first pin is its tree": the first that it was given, wherever it lies.
    private static void firstPinIsTheTree() {
        int[][] orders = {{0, 3, 6}, {3, 0, 6}, {6, 0, 3}, {6, 3, 0}};
        for (int[] order : orders) {
            GridRipUp g = withNets(7, 1, 1, 1);
            for (int i : order) {
                g.pin(0, 0, i, 0);
            }
            g.run(1);
            Check.due("the first pin is the first piece", g.piece(0, 0, 1), order[0]);
            Check.due("whichever it is: costOf(0)", g.costOf(0), 12);
        }
    }

    // "the pin's DISTANCE is added to the net's COST": of each pin, and anew each time that it is LED.
    private static void costsAddUp() {
        GridRipUp g = withNets(9, 1, 1, 1);
        for (int p = 0; p < 5; p++) {
            g.pin(0, 0, 2 * p, 0);
            g.run(1);
            Check.due("led with " + (p + 1) + " pins: costOf(0)", g.costOf(0), 4 * p);
        }
    }

    /** Between two others' ways every step is as dear as can be without a rip. */
    private static void greatCosts() {
        GridRipUp g = withNets(3, 16, 1, 3);
        g.cost(0, 50, 50, 50);
        for (int i = 0; i < 3; i += 2) {
            g.pin(i, 0, i, 0);
            g.pin(i, 0, i, 15);
        }
        g.run(1);
        g.pin(1, 0, 1, 0);
        g.pin(1, 0, 1, 15);
        Check.due("between two ways: run(1)", g.run(1), 0);
        Check.due("between two ways: costOf(1)", g.costOf(1), 15 * (2 + 50 + 2 * 50));
    }
}

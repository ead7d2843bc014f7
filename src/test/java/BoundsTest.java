/** What is too small or too large: the grid's sides, and each argument of each call. */
public final class BoundsTest {
    private static final int NONE = GridRipUp.NONE;
    private static final int LEAST = Integer.MIN_VALUE;
    private static final int MOST = Integer.MAX_VALUE;
    private static final int[][] SIDES_AND_HELD = {{LEAST, 1}, {-16, 1}, {-1, 1}, {0, 1}, {1, 1}, {2, 2}, {15, 15},
        {16, 16}, {17, 16}, {32, 16}, {MOST, 16}};
    private static final int[][] LAYERS_AND_HELD = {{LEAST, 1}, {-4, 1}, {-1, 1}, {0, 1}, {1, 1}, {2, 2}, {3, 3},
        {4, 4}, {5, 4}, {8, 4}, {16, 4}, {MOST, 4}};

    private interface CellCall {
        long answer(int layer, int i, int j);
    }

    private interface NetCall {
        long answer(int net);
    }

    private interface SetCall {
        long answer(int k);
    }

    public static void main(String[] args) {
        xIsHeld();
        yIsHeld();
        layersAreHeld();
        heldSidesAreGoneOver();
        noSuchCell();
        noSuchCellThatHasANumber();
        noSuchNet();
        noSuchNetComesBeforeAnyOtherAnswer();
        noSuchPieceOrWhat();
        noSuchLayerOfCosts();
        costsBelowAndAbove();
        roundsBelowAndAbove();
        kBelowAndAbove();
        Check.end();
    }

    /** How many cells there are along a side, looked for a little beyond the greatest one. */
    private static int cellsAlong(CellCall history, int alongLayer, int alongI, int alongJ) {
        int count = 0;
        for (int c = 0; c < 20; c++) {
            try {
                history.answer(alongLayer * c, alongI * c, alongJ * c);
                count++;
            } catch (IndexOutOfBoundsException e) {
                // There is no such cell.
            }
        }
        return count;
    }

    private static void held(int x, int y, int layers, int heldX, int heldY, int heldLayers) {
        GridRipUp g = new GridRipUp(x, y, layers, 0L);
        String name = "new(" + x + ", " + y + ", " + layers + "): ";
        Check.due(name + "cells along i", cellsAlong(g::history, 0, 1, 0), heldX);
        Check.due(name + "cells along j", cellsAlong(g::history, 0, 0, 1), heldY);
        Check.due(name + "layers", cellsAlong(g::history, 1, 0, 0), heldLayers);
        Check.due(name + "the last cell", g.bar(heldLayers - 1, heldX - 1, heldY - 1), true);
    }

    // Terms: "x, y are held to 1 .. 16 (below: 1, above: the greatest)".
    private static void xIsHeld() {
        for (int[] one : SIDES_AND_HELD) {
            held(one[0], 3, 2, one[1], 3, 2);
        }
    }

    private static void yIsHeld() {
        for (int[] one : SIDES_AND_HELD) {
            held(3, one[0], 2, 3, one[1], 2);
        }
    }

    // Terms: "layers to 1 .. 4 (below: 1, above: the greatest)".
    private static void layersAreHeld() {
        for (int[] one : LAYERS_AND_HELD) {
            held(3, 2, one[0], 3, 2, one[1]);
        }
        held(LEAST, LEAST, LEAST, 1, 1, 1);
        held(MOST, MOST, MOST, 16, 16, 4);
    }

    private static void heldSidesAreGoneOver() {
        GridRipUp great = new GridRipUp(MOST, 17, 5, 0L);
        great.net();
        great.pin(0, 0, 0, 0);
        great.pin(0, 3, 15, 15);
        Check.due("from the first cell to the last: run(1)", great.run(1), 0);
        Check.due("from the first cell to the last: costOf(0)", great.costOf(0), 2 * (15 + 15 + 3));
        Check.due("from the first cell to the last: pieces", great.piece(0, 33, 0) <= 3, true);
        Check.noSuch("and no piece more", () -> great.piece(0, 34, 0));

        GridRipUp small = new GridRipUp(-1, 0, LEAST, 0L);
        small.net();
        Check.due("the one cell: pin", small.pin(0, 0, 0, 0), true);
        Check.due("the one cell: run(1)", small.run(1), 0);
        Check.due("the one cell: costOf(0)", small.costOf(0), 0);
    }

    private static void wrongCells(String name, int x, int y, int layers, CellCall call) {
        int[] wrongLayers = {-1, layers, 4, LEAST, MOST, 1 << 30};
        for (int layer : wrongLayers) {
            Check.noSuch(name + ": layer " + layer, () -> call.answer(layer, 0, 0));
        }
        int[] wrongI = {-1, x, 16, LEAST, MOST, 1 << 30};
        for (int i : wrongI) {
            Check.noSuch(name + ": i " + i, () -> call.answer(0, i, 0));
        }
        int[] wrongJ = {-1, y, 16, LEAST, MOST, 1 << 30};
        for (int j : wrongJ) {
            Check.noSuch(name + ": j " + j, () -> call.answer(0, 0, j));
        }
    }

    // Promises 2, 4 and 10: "IndexOutOfBoundsException, when there is no such cell".
    private static void noSuchCell() {
        int[][] sides = {{3, 2, 4}, {2, 5, 3}, {1, 1, 1}, {16, 16, 4}};
        for (int[] side : sides) {
            GridRipUp g = new GridRipUp(side[0], side[1], side[2], 0L);
            g.net();
            wrongCells("bar", side[0], side[1], side[2], (l, i, j) -> g.bar(l, i, j) ? 1 : 0);
            wrongCells("pin", side[0], side[1], side[2], (l, i, j) -> g.pin(0, l, i, j) ? 1 : 0);
            wrongCells("history", side[0], side[1], side[2], g::history);
            int layer = side[2] - 1;
            int i = side[0] - 1;
            int j = side[1] - 1;
            Check.due("the last cell: history", g.history(layer, i, j), 0);
            Check.due("the last cell: pin", g.pin(0, layer, i, j), true);
            Check.due("the last cell: bar of its pin", g.bar(layer, i, j), false);
        }
    }

    /** One argument too large and another too small would make up the number of a cell that there is. */
    private static void noSuchCellThatHasANumber() {
        GridRipUp g = new GridRipUp(4, 4, 2, 0L);
        g.net();
        int[][] wrong = {{0, 4, 0}, {0, -1, 1}, {0, 0, 4}, {1, 0, -1}, {0, 16, 0}, {-1, 0, 4}, {1, -4, 0}, {0, 8, -1},
            {2, -16, 0}, {1 << 28, 1, 1}, {0, 1, 1 << 30}};
        for (int[] cell : wrong) {
            String name = "(" + cell[0] + ", " + cell[1] + ", " + cell[2] + ")";
            Check.noSuch("bar" + name, () -> g.bar(cell[0], cell[1], cell[2]) ? 1 : 0);
            Check.noSuch("pin" + name, () -> g.pin(0, cell[0], cell[1], cell[2]) ? 1 : 0);
            Check.noSuch("history" + name, () -> g.history(cell[0], cell[1], cell[2]));
        }
    }

    private static void wrongNets(String name, int count, NetCall call) {
        int[] wrong = {-1, count, 12, 13, 16, 32, LEAST, MOST};
        for (int net : wrong) {
            Check.noSuch(name + " of net " + net + " of " + count, () -> call.answer(net));
        }
    }

    private static void wrongNets(GridRipUp g, int count) {
        wrongNets("pin", count, n -> g.pin(n, 0, 1, 1) ? 1 : 0);
        wrongNets("piece", count, n -> g.piece(n, 0, 0));
        wrongNets("costOf", count, g::costOf);
        wrongNets("ripped", count, g::ripped);
        wrongNets("blocking", count, n -> g.blocking(n, 0));
        wrongNets("joined", count, n -> g.joined(n) ? 1 : 0);
        wrongNets("corridor", count, n -> g.corridor(n, 0));
        wrongNets("band", count, n -> g.band(n) ? 1 : 0);
    }

    // Promises 4, 7 to 9, 12 to 14 and 16: "IndexOutOfBoundsException, when there is no such net".
    private static void noSuchNet() {
        int[] counts = {0, 1, 5, 11, 12};
        for (int count : counts) {
            GridRipUp g = new GridRipUp(3, 3, 1, 0L);
            for (int n = 0; n < count; n++) {
                g.net();
            }
            wrongNets(g, count);
            if (count > 0) {
                int last = count - 1;
                Check.due("the last net: pin", g.pin(last, 0, 0, 0), true);
                g.run(1);
                Check.due("the last net: piece", g.piece(last, 0, 1), 0);
                Check.due("the last net: costOf", g.costOf(last), 0);
                Check.due("the last net: ripped", g.ripped(last), 0);
                Check.due("the last net: blocking", g.blocking(last, 0), NONE);
                Check.due("the last net: joined", g.joined(last), true);
                Check.due("the last net: corridor", g.corridor(last, 0), 0);
                Check.due("the last net: band", g.band(last), true);
            }
            wrongNets(g, count);
        }
    }

    // "NONE, when .. k is below 0" and "false .. when" are for nets and cells that there are.
    private static void noSuchNetComesBeforeAnyOtherAnswer() {
        GridRipUp g = new GridRipUp(6, 1, 1, 0L);
        g.net();
        for (int i = 0; i < 5; i++) {
            g.pin(0, 0, i, 0);
        }
        g.bar(0, 5, 0);
        Check.noSuch("blocking(1, -1)", () -> g.blocking(1, -1));
        Check.noSuch("blocking(-1, max)", () -> g.blocking(-1, MOST));
        Check.noSuch("corridor(1, -1)", () -> g.corridor(1, -1));
        Check.noSuch("corridor(-1, max)", () -> g.corridor(-1, MOST));
        Check.noSuch("pin of no net on a pin", () -> g.pin(1, 0, 0, 0) ? 1 : 0);
        Check.noSuch("pin of no net on a BARRED cell", () -> g.pin(1, 0, 5, 0) ? 1 : 0);
        Check.noSuch("pin of no net on no cell", () -> g.pin(1, 0, 6, 0) ? 1 : 0);
        Check.noSuch("a sixth pin on no cell", () -> g.pin(0, 0, 6, 0) ? 1 : 0);
        Check.noSuch("costs of no layer that are too great", () -> g.cost(1, 51, 51, 51) ? 1 : 0);
    }

    // Promise 7: "IndexOutOfBoundsException, when there is no such net, cell, or what (none of an OPEN one)".
    private static void noSuchPieceOrWhat() {
        GridRipUp g = new GridRipUp(4, 1, 1, 0L);
        g.net();
        Check.noSuch("piece of a net without pins", () -> g.piece(0, 0, 0));
        g.pin(0, 0, 3, 0);
        g.pin(0, 0, 0, 0);
        Check.noSuch("piece of an OPEN net: its first pin", () -> g.piece(0, 0, 0));
        g.run(1);
        int[] iOfPieces = {3, 0, 1, 2};
        for (int k = 0; k < 4; k++) {
            Check.due("what 0 of piece " + k, g.piece(0, k, 0), 0);
            Check.due("what 1 of piece " + k, g.piece(0, k, 1), iOfPieces[k]);
            Check.due("what 2 of piece " + k, g.piece(0, k, 2), 0);
        }
        int[] wrongK = {-1, 4, 5, LEAST, MOST};
        for (int k : wrongK) {
            for (int what = 0; what < 3; what++) {
                int which = what;
                Check.noSuch("piece(0, " + k + ", " + what + ")", () -> g.piece(0, k, which));
            }
        }
        int[] wrongWhat = {-1, 3, 4, LEAST, MOST};
        for (int what : wrongWhat) {
            Check.noSuch("piece(0, 0, " + what + ")", () -> g.piece(0, 0, what));
            Check.noSuch("piece(0, 3, " + what + ")", () -> g.piece(0, 3, what));
        }
        g.pin(0, 0, 1, 0);
        Check.noSuch("piece of a net that is OPEN again", () -> g.piece(0, 0, 0));
    }

    // Promise 5: "IndexOutOfBoundsException, when there is no such layer".
    private static void noSuchLayerOfCosts() {
        for (int layers = 1; layers <= 4; layers++) {
            GridRipUp g = new GridRipUp(5, 5, layers, 0L);
            int[] wrong = {-1, layers, 4, LEAST, MOST};
            for (int layer : wrong) {
                Check.noSuch("cost of layer " + layer + " of " + layers, () -> g.cost(layer, 0, 0, 0) ? 1 : 0);
            }
            for (int layer = 0; layer < layers; layer++) {
                Check.due("cost of layer " + layer + " of " + layers, g.cost(layer, 1, 2, 3), true);
            }
        }
    }

    // Promise 5: "IllegalArgumentException, when one is not 0 .. 50".
    private static void costsBelowAndAbove() {
        GridRipUp g = new GridRipUp(2, 2, 1, 0L);
        int[] wrong = {-1, 51, LEAST, MOST};
        for (int value : wrong) {
            Check.illegal("ACROSS " + value, () -> g.cost(0, value, 0, 0) ? 1 : 0);
            Check.illegal("VIA " + value, () -> g.cost(0, 0, value, 0) ? 1 : 0);
            Check.illegal("NEAR " + value, () -> g.cost(0, 0, 0, value) ? 1 : 0);
        }
        Check.due("0 is a cost", g.cost(0, 0, 0, 0), false);
        Check.due("ACROSS 50", g.cost(0, 50, 0, 0), true);
        Check.due("VIA 50", g.cost(0, 50, 50, 0), true);
        Check.due("NEAR 50", g.cost(0, 50, 50, 50), true);
        Check.due("the same", g.cost(0, 50, 50, 50), false);
        Check.due("ACROSS 0", g.cost(0, 0, 50, 50), true);
        Check.due("VIA 0", g.cost(0, 0, 0, 50), true);
        Check.due("NEAR 0", g.cost(0, 0, 0, 0), true);
    }

    // Promise 6: "So many ROUNDS (1 .. 20)", "IllegalArgumentException, when rounds are not so".
    private static void roundsBelowAndAbove() {
        GridRipUp g = new GridRipUp(3, 1, 1, 0L);
        int[] wrong = {0, -1, 21, -20, 40, LEAST, MOST};
        for (int rounds : wrong) {
            Check.illegal("run(" + rounds + ") without nets", () -> g.run(rounds));
        }
        g.net();
        g.pin(0, 0, 0, 0);
        g.pin(0, 0, 2, 0);
        g.bar(0, 1, 0);
        for (int rounds : wrong) {
            Check.illegal("run(" + rounds + ") with an OPEN net", () -> g.run(rounds));
        }
        Check.due("no ROUND of these", g.round(), 0);
        Check.due("run(1)", g.run(1), 1);
        Check.due("one ROUND", g.round(), 1);
        Check.due("run(20)", g.run(20), 1);
        Check.due("20 ROUNDS more", g.round(), 21);
        Check.due("run(19)", g.run(19), 1);
        Check.due("19 ROUNDS more", g.round(), 40);
    }

    private static void onlyFirst(String name, int first, int second, SetCall call) {
        Check.due(name + ": k 0", call.answer(0), first);
        Check.due(name + ": k 1", call.answer(1), second);
        int[] wrong = {2, 3, 12, 16, 31, 32, 33, MOST, -1, -2, -32, LEAST};
        for (int k : wrong) {
            Check.due(name + ": k " + k, call.answer(k), NONE);
        }
    }

    // Promises 11, 12 and 14: "NONE, when there are not so many (or k is below 0)".
    private static void kBelowAndAbove() {
        GridRipUp g = new GridRipUp(5, 1, 1, 0L);
        for (int n = 0; n < 4; n++) {
            g.net();
        }
        g.pin(1, 0, 0, 0);
        g.pin(3, 0, 4, 0);
        onlyFirst("open", 1, 3, g::open);
        g.run(1);
        g.pin(2, 0, 2, 0);
        g.run(1);
        onlyFirst("open of none", NONE, NONE, g::open);
        g.pin(1, 0, 1, 0);
        g.pin(1, 0, 3, 0);
        g.run(1);
        onlyFirst("blocking", 2, NONE, k -> g.blocking(1, k));
        onlyFirst("corridor", 0, NONE, k -> g.corridor(1, k));
        onlyFirst("corridor of another", 1, NONE, k -> g.corridor(3, k));
        onlyFirst("corridor of a net without pins", NONE, NONE, k -> g.corridor(0, k));
        onlyFirst("blocking of a LED net", NONE, NONE, k -> g.blocking(3, k));
    }
}

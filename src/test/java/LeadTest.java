/** Promises 5 to 8 and 13: what steps cost, run, piece, costOf and joined, where nothing is ripped. */
public final class LeadTest {
    private static final int NONE = GridRipUp.NONE;

    public static void main(String[] args) {
        acrossOfLayers();
        viaOfTheLowerLayer();
        nearness();
        nearnessOfTheCellsLayer();
        nearnessOfEachCellBeside();
        costsLeadTheWay();
        orderOfPieces();
        orderAmongEqualWays();
        piecesOfANetLedAgain();
        wrongPieces();
        run();
        joinedAndCost();
        Check.end();
    }

    // One row along i or one along j on a layer, the other layers barred: 2 steps.
    private static long stepsOnLayer(int layer, boolean alongI, int across) {
        int x = alongI ? 3 : 1;
        int y = alongI ? 1 : 3;
        GridRipUp g = new GridRipUp(x, y, 4, 0L);
        g.net();
        g.cost(layer, across, 0, 0);
        for (int l = 0; l < 4; l++) {
            for (int c = 0; c < 3 && l != layer; c++) {
                g.bar(l, alongI ? c : 0, alongI ? 0 : c);
            }
        }
        g.pin(0, layer, 0, 0);
        g.pin(0, layer, x - 1, y - 1);
        g.run(1);
        return g.costOf(0);
    }

    private static void acrossOfLayers() {
        for (int layer = 0; layer < 4; layer++) {
            boolean even = layer % 2 == 0;
            Check.due("along i on layer " + layer, stepsOnLayer(layer, true, 7), even ? 4 : 18);
            Check.due("along j on layer " + layer, stepsOnLayer(layer, false, 7), even ? 18 : 4);
        }
    }

    private static void viaOfTheLowerLayer() {
        for (int first = 0; first < 4; first += 3) {
            GridRipUp g = new GridRipUp(1, 1, 4, 0L);
            g.net();
            g.cost(0, 1, 10, 1);
            g.cost(1, 1, 20, 1);
            g.cost(2, 1, 30, 1);
            g.cost(3, 1, 40, 1);
            g.pin(0, first, 0, 0);
            g.pin(0, 3 - first, 0, 0);
            g.run(1);
            Check.due("vias from layer " + first, g.costOf(0), 12 + 22 + 32);
        }
    }

    private static void nearness() {
        GridRipUp g = new GridRipUp(3, 3, 2, 0L);
        for (int n = 0; n < 4; n++) {
            g.net();
        }
        for (int i = 0; i < 3; i++) {
            for (int j = 0; j < 3; j++) {
                if (i != 1 || j != 1) {
                    g.bar(1, i, j);
                }
            }
        }
        g.pin(0, 0, 0, 1);
        g.pin(0, 0, 2, 1);
        g.pin(1, 0, 1, 0);
        g.pin(2, 0, 1, 2);
        g.pin(3, 1, 1, 1);
        g.cost(0, 0, 0, 50);
        g.run(1);
        // Two others beside the middle, one more above it which does not count; none beside the end.
        Check.due("near two nets", g.costOf(0), 2 + 50 + 50 + 2);
        Check.due("a net with one pin", g.costOf(3), 0);
    }

    private static void nearnessOfTheCellsLayer() {
        GridRipUp g = new GridRipUp(2, 1, 2, 0L);
        g.net();
        g.net();
        g.pin(0, 0, 0, 0);
        g.pin(0, 1, 0, 0);
        g.pin(1, 1, 1, 0);
        g.cost(0, 0, 0, 5);
        g.cost(1, 0, 0, 9);
        g.run(1);
        Check.due("a via to a cell beside another net", g.costOf(0), 2 + 9);

        GridRipUp own = new GridRipUp(3, 1, 1, 0L);
        own.net();
        own.cost(0, 0, 0, 50);
        own.pin(0, 0, 0, 0);
        own.pin(0, 0, 1, 0);
        own.pin(0, 0, 2, 0);
        own.run(1);
        Check.due("its own pins are not near", own.costOf(0), 4);
    }

    /** A via to a cell with 0 to 4 cells beside it that one other net HOLDS: each counts, not the net. */
    private static void nearnessOfEachCellBeside() {
        int[][] beside = {{1, 0}, {0, 1}, {2, 1}, {1, 2}};
        for (int count = 0; count <= 4; count++) {
            GridRipUp g = new GridRipUp(3, 3, 2, 0L);
            g.net();
            g.net();
            g.cost(0, 0, 50, 0);
            g.cost(1, 0, 0, 50);
            g.pin(0, 0, 1, 1);
            g.pin(0, 1, 1, 1);
            for (int b = 0; b < count; b++) {
                g.pin(1, 1, beside[b][0], beside[b][1]);
            }
            barAll(g);
            g.run(1);
            Check.due(count + " cells beside it", g.costOf(0), 52 + 50 * count);
        }
    }

    /** All cells of 3 by 3 by 2 but those that a net HOLDS. */
    private static void barAll(GridRipUp g) {
        for (int c = 0; c < 18; c++) {
            g.bar(c / 9, c % 3, c / 3 % 3);
        }
    }

    private static void costsLeadTheWay() {
        GridRipUp g = new GridRipUp(1, 4, 2, 0L);
        g.net();
        g.cost(0, 3, 1, 0);
        g.pin(0, 0, 0, 0);
        g.pin(0, 0, 0, 3);
        g.run(1);
        // 3 steps of 5 on layer 0, or two vias of 3 and 3 steps of 2 on layer 1.
        Check.due("over the layer above", g.costOf(0), 12);
        Check.due("its third piece is above", g.piece(0, 2, 0), 1);
        g.cost(0, 1, 2, 0);
        Check.due("costs do not change a LED net", g.costOf(0), 12);
        g.pin(0, 0, 0, 1);
        g.run(1);
        Check.due("led again with the new costs", g.costOf(0), 9);
    }

    private static void way(String name, GridRipUp g, int... cells) {
        for (int k = 0; k < cells.length / 3; k++) {
            for (int what = 0; what < 3; what++) {
                Check.due(name + ": piece(0, " + k + ", " + what + ")", g.piece(0, k, what), cells[3 * k + what]);
            }
        }
        int count = cells.length / 3;
        Check.noSuch(name + ": piece(0, " + count + ", 0)", () -> g.piece(0, count, 0));
    }

    private static void orderOfPieces() {
        GridRipUp near = new GridRipUp(5, 1, 1, 0L);
        near.net();
        near.pin(0, 0, 0, 0);
        near.pin(0, 0, 4, 0);
        near.pin(0, 0, 2, 0);
        near.run(1);
        way("the nearest pin first", near, 0, 0, 0, 0, 2, 0, 0, 1, 0, 0, 4, 0, 0, 3, 0);
        Check.due("its COST", near.costOf(0), 8);

        GridRipUp later = new GridRipUp(3, 2, 1, 0L);
        later.net();
        later.cost(0, 1, 0, 0);
        later.pin(0, 0, 0, 0);
        later.pin(0, 0, 2, 0);
        later.pin(0, 0, 0, 1);
        later.run(1);
        way("the later pin is a little nearer", later, 0, 0, 0, 0, 0, 1, 0, 2, 0, 0, 1, 0);

        GridRipUp equal = new GridRipUp(5, 1, 1, 0L);
        equal.net();
        equal.pin(0, 0, 2, 0);
        equal.pin(0, 0, 4, 0);
        equal.pin(0, 0, 0, 0);
        equal.run(1);
        way("of equal ones the first pin", equal, 0, 2, 0, 0, 4, 0, 0, 3, 0, 0, 0, 0, 0, 1, 0);

        GridRipUp tree = new GridRipUp(5, 3, 1, 0L);
        tree.net();
        tree.pin(0, 0, 0, 0);
        tree.pin(0, 0, 4, 0);
        tree.pin(0, 0, 2, 2);
        tree.cost(0, 1, 0, 0);
        tree.run(1);
        // (4, 0) is 8 away, (2, 2) is 10: then it is 6 from the way.
        way("from the whole tree", tree, 0, 0, 0, 0, 4, 0, 0, 3, 0, 0, 2, 0, 0, 1, 0, 0, 2, 2, 0, 2, 1);
        Check.due("from the whole tree: costOf(0)", tree.costOf(0), 14);
    }

    private static void orderAmongEqualWays() {
        GridRipUp flat = new GridRipUp(3, 3, 1, 0L);
        flat.net();
        flat.pin(0, 0, 0, 0);
        flat.pin(0, 0, 2, 2);
        flat.run(1);
        way("j goes down before i", flat, 0, 0, 0, 0, 2, 2, 0, 2, 1, 0, 2, 0, 0, 1, 0);

        GridRipUp back = new GridRipUp(3, 3, 1, 0L);
        back.net();
        back.pin(0, 0, 2, 2);
        back.pin(0, 0, 0, 0);
        back.run(1);
        way("i goes up before j", back, 0, 2, 2, 0, 0, 0, 0, 1, 0, 0, 2, 0, 0, 2, 1);

        GridRipUp down = new GridRipUp(2, 1, 2, 0L);
        down.net();
        down.pin(0, 0, 0, 0);
        down.pin(0, 1, 1, 0);
        down.run(1);
        way("the layer goes down before i", down, 0, 0, 0, 1, 1, 0, 0, 1, 0);

        GridRipUp up = new GridRipUp(1, 2, 2, 0L);
        up.net();
        up.pin(0, 1, 0, 1);
        up.pin(0, 0, 0, 0);
        up.run(1);
        way("j goes up before the layer", up, 1, 0, 1, 0, 0, 0, 0, 0, 1);
    }

    // Promise 7: "in the order in which they came into its tree": into the tree that it has now.
    private static void piecesOfANetLedAgain() {
        GridRipUp g = new GridRipUp(5, 2, 1, 0L);
        g.net();
        g.pin(0, 0, 0, 0);
        g.pin(0, 0, 2, 0);
        g.run(1);
        way("led once", g, 0, 0, 0, 0, 2, 0, 0, 1, 0);
        g.pin(0, 0, 4, 0);
        g.run(1);
        way("led twice", g, 0, 0, 0, 0, 2, 0, 0, 1, 0, 0, 4, 0, 0, 3, 0);
        g.pin(0, 0, 0, 1);
        g.run(1);
        way("led three times", g, 0, 0, 0, 0, 0, 1, 0, 2, 0, 0, 1, 0, 0, 4, 0, 0, 3, 0);
    }

    private static void wrongPieces() {
        GridRipUp g = new GridRipUp(3, 1, 1, 0L);
        g.net();
        g.net();
        Check.noSuch("a piece of a net without pins", () -> g.piece(0, 0, 0));
        g.pin(0, 0, 0, 0);
        g.pin(0, 0, 2, 0);
        Check.noSuch("a piece of an OPEN net", () -> g.piece(0, 0, 0));
        g.run(1);
        Check.due("the last piece", g.piece(0, 2, 1), 1);
        Check.noSuch("piece(0, 3, 0)", () -> g.piece(0, 3, 0));
        Check.noSuch("piece(0, -1, 0)", () -> g.piece(0, -1, 0));
        Check.noSuch("piece(0, max, 0)", () -> g.piece(0, Integer.MAX_VALUE, 0));
        Check.noSuch("piece(0, 0, -1)", () -> g.piece(0, 0, -1));
        Check.noSuch("piece(0, 0, 3)", () -> g.piece(0, 0, 3));
        Check.noSuch("piece(1, 0, 0)", () -> g.piece(1, 0, 0));
        Check.noSuch("piece(2, 0, 0)", () -> g.piece(2, 0, 0));
        Check.noSuch("piece(-1, 0, 0)", () -> g.piece(-1, 0, 0));
    }

    private static void run() {
        GridRipUp g = new GridRipUp(4, 4, 1, 0L);
        Check.illegal("run(0)", () -> g.run(0));
        Check.illegal("run(-1)", () -> g.run(-1));
        Check.illegal("run(21)", () -> g.run(21));
        Check.illegal("run(min)", () -> g.run(Integer.MIN_VALUE));
        g.net();
        Check.due("run of a net without pins", g.run(3), 0);
        Check.due("is no ROUND", g.round(), 0);
        g.pin(0, 0, 0, 0);
        Check.illegal("run(21) with an OPEN net", () -> g.run(21));
        Check.due("leads none", g.joined(0), false);
        Check.due("run(20)", g.run(20), 0);
        Check.due("ends when no net is OPEN", g.round(), 1);
        Check.due("run(1) when none is OPEN", g.run(1), 0);
        Check.due("is no ROUND", g.round(), 1);
        g.pin(0, 0, 3, 3);
        Check.due("run(2) of an opened net", g.run(2), 0);
        Check.due("is one ROUND", g.round(), 2);
    }

    private static void joinedAndCost() {
        GridRipUp g = new GridRipUp(4, 1, 1, 0L);
        g.net();
        Check.due("joined without pins", g.joined(0), false);
        Check.due("costOf without pins", g.costOf(0), NONE);
        g.pin(0, 0, 0, 0);
        Check.due("joined when OPEN", g.joined(0), false);
        Check.due("costOf when OPEN", g.costOf(0), NONE);
        g.run(1);
        Check.due("joined of one pin", g.joined(0), true);
        Check.due("costOf of one pin", g.costOf(0), 0);
        g.pin(0, 0, 3, 0);
        g.run(1);
        Check.due("joined of two", g.joined(0), true);
        Check.due("costOf of two", g.costOf(0), 6);
        Check.noSuch("joined(1)", () -> g.joined(1) ? 1 : 0);
        Check.noSuch("joined(-1)", () -> g.joined(-1) ? 1 : 0);
        Check.noSuch("costOf(1)", () -> g.costOf(1));
        Check.noSuch("costOf(-1)", () -> g.costOf(-1));
    }
}

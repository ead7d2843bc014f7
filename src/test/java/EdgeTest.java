/** The grid's edge: a row, a column and the layers end there, whatever the numbers behind it are. */
public final class EdgeTest {
    private static final int NONE = GridRipUp.NONE;

    public static void main(String[] args) {
        noStepOverTheEdge();
        noNearnessOverTheEdge();
        noBlockingOverTheEdge();
        everyCellHasItsNeighbours();
        vias();
        blocksAtTheEdge();
        bendsInEachCorner();
        bendsAmongLayers();
        Check.end();
    }

    // Cells (layer, i, j, layer, i, j) whose numbers lie as neighbours' numbers do, of grids x, y, layers.
    private static final int[][] NO_NEIGHBOURS = {
        // sides     the one   the other
        {3, 2, 1, 0, 2, 0, 0, 0, 1},   // a row's end and the next row's beginning
        {2, 2, 2, 0, 1, 1, 1, 0, 0},   // a layer's end and the next layer's beginning
        {2, 2, 2, 0, 0, 1, 1, 0, 0},   // the last row and the next layer's first one
        {3, 1, 1, 0, 0, 0, 0, 2, 0},   // the two ends of a row
        {1, 3, 1, 0, 0, 0, 0, 0, 2},   // the two ends of a column
        {1, 1, 3, 0, 0, 0, 2, 0, 0},   // the lowest and the highest layer
        {1, 1, 4, 0, 0, 0, 3, 0, 0},
        {16, 2, 1, 0, 15, 0, 0, 0, 1},
        {2, 2, 1, 0, 0, 0, 0, 1, 1},   // across a corner
        {2, 1, 2, 0, 0, 0, 1, 1, 0},
        {1, 2, 2, 0, 0, 0, 1, 0, 1},
    };

    private static boolean isOneOf(int[] pair, int layer, int i, int j) {
        boolean one = pair[3] == layer && pair[4] == i && pair[5] == j;
        boolean other = pair[6] == layer && pair[7] == i && pair[8] == j;
        return one || other;
    }

    private static GridRipUp withNets(int[] sides, int nets) {
        GridRipUp g = new GridRipUp(sides[0], sides[1], sides[2], 0L);
        for (int n = 0; n < nets; n++) {
            g.net();
        }
        return g;
    }

    private static void barAllBut(GridRipUp g, int[] pair) {
        for (int layer = 0; layer < pair[2]; layer++) {
            for (int j = 0; j < pair[1]; j++) {
                for (int i = 0; i < pair[0]; i++) {
                    if (!isOneOf(pair, layer, i, j)) {
                        g.bar(layer, i, j);
                    }
                }
            }
        }
    }

    private static String shown(int[] pair) {
        StringBuilder text = new StringBuilder();
        for (int one : pair) {
            text.append(one).append(' ');
        }
        return text.toString();
    }

    // Terms: "NEIGHBOURS of a cell are those beside it on its layer, and the same i, j one layer above and below".
    private static void noStepOverTheEdge() {
        for (int[] pair : NO_NEIGHBOURS) {
            GridRipUp g = withNets(pair, 1);
            barAllBut(g, pair);
            g.pin(0, pair[3], pair[4], pair[5]);
            g.pin(0, pair[6], pair[7], pair[8]);
            Check.due("no step, " + shown(pair) + ": run(2)", g.run(2), 1);
            Check.due("no step, " + shown(pair) + ": joined(0)", g.joined(0), false);
        }
    }

    /** A net comes to a cell while another one HOLDS what is no neighbour of it. */
    private static void noNearnessOverTheEdge() {
        GridRipUp row = withNets(new int[] {3, 2, 1}, 2);
        row.cost(0, 0, 0, 50);
        row.pin(0, 0, 1, 1);
        row.pin(0, 0, 0, 1);
        row.pin(1, 0, 2, 0);
        row.run(1);
        Check.due("a row's beginning and the row's end before it", row.costOf(0), 2);

        GridRipUp back = withNets(new int[] {3, 2, 1}, 2);
        back.cost(0, 0, 0, 50);
        back.pin(0, 0, 1, 0);
        back.pin(0, 0, 2, 0);
        back.pin(1, 0, 0, 1);
        back.run(1);
        Check.due("a row's end and the next row's beginning", back.costOf(0), 2);

        GridRipUp column = withNets(new int[] {1, 4, 1}, 2);
        column.cost(0, 0, 0, 50);
        column.pin(0, 0, 0, 1);
        column.pin(0, 0, 0, 0);
        column.pin(1, 0, 0, 3);
        column.run(1);
        Check.due("a column's two ends", column.costOf(0), 2);

        GridRipUp layers = withNets(new int[] {2, 2, 2}, 2);
        layers.cost(0, 0, 0, 50);
        layers.cost(1, 0, 0, 50);
        layers.pin(0, 0, 0, 1);
        layers.pin(0, 0, 1, 1);
        layers.pin(1, 1, 0, 0);
        layers.run(1);
        Check.due("a layer's last cell and the next layer's first", layers.costOf(0), 2);
    }

    // Terms: "BLOCKED by all nets that HOLD a neighbour": what is no neighbour does not block.
    private static void noBlockingOverTheEdge() {
        for (int[] pair : NO_NEIGHBOURS) {
            int[] wider = {pair[0], pair[1], pair[2] + 2};
            if (wider[2] <= 4) {
                GridRipUp g = withNets(wider, 2);
                barAllBut(g, pair);
                for (int i = 0; i < pair[0]; i++) {
                    for (int j = 0; j < pair[1]; j++) {
                        g.bar(pair[2], i, j);
                    }
                }
                g.pin(0, pair[3], pair[4], pair[5]);
                g.pin(0, pair[2] + 1, 0, 0);
                g.pin(1, pair[6], pair[7], pair[8]);
                Check.due("no blocking, " + shown(pair) + ": run(1)", g.run(1), 1);
                Check.due("no blocking, " + shown(pair) + ": blocking(0, 0)", g.blocking(0, 0), NONE);
            }
        }
    }

    private static long stepBetween(int x, int y, int layers, int[] from, int[] to) {
        GridRipUp g = new GridRipUp(x, y, layers, 0L);
        g.net();
        g.pin(0, from[0], from[1], from[2]);
        g.pin(0, to[0], to[1], to[2]);
        g.run(1);
        return g.costOf(0);
    }

    /** The least cost between two cells of an empty grid is 2 for each side, row and layer between them. */
    private static void everyCellHasItsNeighbours() {
        int[][] corners = new int[8][3];
        for (int c = 0; c < 8; c++) {
            corners[c] = new int[] {c % 2 * 3, c / 2 % 2 * 15, c / 4 * 15};
        }
        for (int[] from : corners) {
            for (int[] to : corners) {
                long apart = Math.abs(from[0] - to[0]) + Math.abs(from[1] - to[1]) + Math.abs(from[2] - to[2]);
                Check.due("between corners", stepBetween(16, 16, 4, from, to), 2 * apart);
            }
        }
    }

    // Terms: "to another layer VIA of the lower number of both, and 2": of the highest layer it is never paid.
    private static void vias() {
        for (int lower = 0; lower < 3; lower++) {
            for (int up = 0; up < 2; up++) {
                GridRipUp g = new GridRipUp(1, 1, 4, 0L);
                g.net();
                for (int layer = 0; layer < 4; layer++) {
                    g.cost(layer, 0, layer == lower ? 50 : 1, 0);
                }
                g.pin(0, lower + 1 - up, 0, 0);
                g.pin(0, lower + up, 0, 0);
                g.run(1);
                Check.due("a via between " + lower + " and the layer above", g.costOf(0), 52);
            }
        }
    }

    // Promise 14: "numbered row by row from 0, (x + 3) / 4 in a row": blocks at the edge may be narrower.
    private static void blocksAtTheEdge() {
        for (int x = 1; x <= 16; x++) {
            for (int y = 1; y <= 16; y++) {
                GridRipUp g = new GridRipUp(x, y, 1, 0L);
                g.net();
                g.pin(0, 0, x - 1, y - 1);
                int inRow = (x + 3) / 4;
                int rows = (y + 3) / 4;
                Check.due(x + " by " + y + ": the last block", g.corridor(0, 0), inRow * rows - 1);
                Check.due(x + " by " + y + ": no other", g.corridor(0, 1), NONE);
            }
        }
        for (int c = 0; c < 16; c++) {
            GridRipUp g = new GridRipUp(16, 16, 4, 0L);
            g.net();
            g.pin(0, c % 4, c, 15 - c);
            Check.due("block of " + c + ", " + (15 - c), g.corridor(0, 0), (15 - c) / 4 * 4 + c / 4);
        }
    }

    /** A net with pins on three cells of a square of four; the fourth, beside both ends, is the one asked for. */
    private static GridRipUp bend(int i, int j) {
        GridRipUp g = new GridRipUp(2, 2, 2, 0L);
        g.net();
        g.net();
        g.pin(0, 0, 1 - i, 1 - j);
        g.pin(0, 0, i, 1 - j);
        g.pin(0, 0, 1 - i, j);
        g.run(1);
        return g;
    }

    // Promise 16: "the cell beside both (not itself) is neither BARRED nor HELD by another net".
    private static void bendsInEachCorner() {
        for (int i = 0; i < 2; i++) {
            for (int j = 0; j < 2; j++) {
                String name = "corner " + i + ", " + j;
                GridRipUp barred = bend(i, j);
                Check.due(name + " free: band", barred.band(0), true);
                barred.bar(1, i, j);
                Check.due(name + " barred above: band", barred.band(0), true);
                barred.bar(0, i, j);
                Check.due(name + " barred: band", barred.band(0), false);

                GridRipUp held = bend(i, j);
                held.pin(1, 0, i, j);
                Check.due(name + " held by an OPEN net: band", held.band(0), false);
                held.run(1);
                Check.due(name + " held by a LED net: band", held.band(0), false);
                Check.due(name + ": band of the one cell there", held.band(1), true);

                GridRipUp own = bend(i, j);
                own.pin(0, 0, i, j);
                Check.due(name + " its own, OPEN: band", own.band(0), false);
                own.run(1);
                Check.due(name + " its own, LED: band", own.band(0), true);
            }
        }
    }

    /** A neighbour along i and one above, or one along j and one above, make no bend. */
    private static void bendsAmongLayers() {
        for (int alongI = 0; alongI < 2; alongI++) {
            GridRipUp g = new GridRipUp(2, 2, 2, 0L);
            g.net();
            int i = alongI;
            int j = 1 - alongI;
            g.pin(0, 0, 0, 0);
            g.pin(0, 0, i, j);
            g.pin(0, 1, 0, 0);
            g.run(1);
            boolean barred = g.bar(1, i, j) && g.bar(1, 1, 1) && g.bar(0, 1, 1) && g.bar(0, j, i);
            Check.due("beside and above: bar", barred, true);
            Check.due("beside and above: band", g.band(0), true);
        }
    }
}

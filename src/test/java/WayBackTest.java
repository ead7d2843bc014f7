/**
 * Terms: "from it back, each time to the neighbour of the lowest number whose DISTANCE and the STEP make up the
 * cell's, to the tree; these cells come into the tree in this order".
 */
public final class WayBackTest {
    private static final int LAYER = 0;
    private static final int I = 1;
    private static final int J = 2;
    private static final int SIDE = 3;

    public static void main(String[] args) {
        for (int axis = LAYER; axis <= J; axis++) {
            for (int other = LAYER; other <= J; other++) {
                if (axis < other) {
                    roundACorner(axis, other);
                }
                if (axis != other) {
                    roundARing(axis, other);
                }
            }
        }
        lowestNumberNotLeastDistance();
        lowestNumberNotGreatestDistance();
        onlyWhatMakesUpTheDistance();
        onlyCellsWithADistance();
        backToTheNearestOfTheTree();
        Check.end();
    }

    private static boolean isOneOf(int[][] cells, int layer, int i, int j) {
        for (int[] cell : cells) {
            if (cell[LAYER] == layer && cell[I] == i && cell[J] == j) {
                return true;
            }
        }
        return false;
    }

    /** A net from one cell of 3 by 3 by 3 to another, which only goes over some cells. */
    private static GridRipUp ledOver(int[] from, int[] to, int[]... over) {
        GridRipUp g = new GridRipUp(SIDE, SIDE, SIDE, 0L);
        g.net();
        g.pin(0, from[LAYER], from[I], from[J]);
        g.pin(0, to[LAYER], to[I], to[J]);
        for (int layer = 0; layer < SIDE; layer++) {
            for (int j = 0; j < SIDE; j++) {
                for (int i = 0; i < SIDE; i++) {
                    if (!isOneOf(over, layer, i, j)) {
                        g.bar(layer, i, j);
                    }
                }
            }
        }
        g.run(1);
        return g;
    }

    private static void pieceIs(String name, GridRipUp g, int k, int... cell) {
        for (int what = 0; what < 3; what++) {
            Check.due(name + ": piece(0, " + k + ", " + what + ")", g.piece(0, k, what), cell[what]);
        }
    }

    private static int number(int[] cell) {
        return (cell[LAYER] * SIDE + cell[J]) * SIDE + cell[I];
    }

    /** From a pin in the middle there are two ways to the cell across a corner: by each of two neighbours. */
    private static void roundACorner(int axis, int other) {
        for (int step = -1; step <= 1; step += 2) {
            for (int otherStep = -1; otherStep <= 1; otherStep += 2) {
                int[] middle = {1, 1, 1};
                int[] first = {1, 1, 1};
                first[axis] += step;
                int[] second = {1, 1, 1};
                second[other] += otherStep;
                int[] corner = {1, 1, 1};
                corner[axis] += step;
                corner[other] += otherStep;
                String name = "round a corner, " + number(first) + " or " + number(second);
                GridRipUp g = ledOver(corner, middle, first, second);
                Check.due(name + ": costOf(0)", g.costOf(0), 4);
                pieceIs(name, g, 0, corner);
                pieceIs(name, g, 1, middle);
                pieceIs(name, g, 2, number(first) < number(second) ? first : second);
                Check.noSuch(name + ": a fourth piece", () -> g.piece(0, 3, 0));
            }
        }
    }

    /** From the middle of a ring's side there are two ways to the middle of the other side: by opposite neighbours. */
    private static void roundARing(int axis, int other) {
        int[][] ring = new int[8][];
        int found = 0;
        for (int c = 0; c < 9; c++) {
            if (c != 4) {
                ring[found] = onPlane(axis, other, c % 3, c / 3);
                found++;
            }
        }
        for (int side = 0; side <= 2; side += 2) {
            int[] pin = onPlane(axis, other, 1, side);
            int[] tree = onPlane(axis, other, 1, 2 - side);
            String name = "round a ring, axes " + axis + " and " + other + ", from " + number(pin);
            GridRipUp g = ledOver(tree, pin, ring);
            Check.due(name + ": costOf(0)", g.costOf(0), 8);
            pieceIs(name, g, 0, tree);
            pieceIs(name, g, 1, pin);
            pieceIs(name, g, 2, onPlane(axis, other, 0, side));
            pieceIs(name, g, 3, onPlane(axis, other, 0, 1));
            pieceIs(name, g, 4, onPlane(axis, other, 0, 2 - side));
            Check.noSuch(name + ": a sixth piece", () -> g.piece(0, 5, 0));
        }
    }

    private static int[] onPlane(int axis, int other, int along, int alongOther) {
        int[] cell = {1, 1, 1};
        cell[axis] = along;
        cell[other] = alongOther;
        return cell;
    }

    /** Two by two cells of one layer with an ACROSS of 1: both ways cost the same, their halves do not. */
    private static GridRipUp square(int layer) {
        GridRipUp g = new GridRipUp(2, 2, 2, 0L);
        g.net();
        g.cost(0, layer == 0 ? 1 : 0, 50, 0);
        g.cost(1, layer == 1 ? 1 : 0, 50, 0);
        g.pin(0, layer, 0, 0);
        g.pin(0, layer, 1, 1);
        g.run(1);
        Check.due("a square of layer " + layer + ": costOf(0)", g.costOf(0), 5);
        return g;
    }

    private static void lowestNumberNotLeastDistance() {
        // On layer 1 the lower of both neighbours, 1, 0, is 3 away and the higher one 2.
        pieceIs("the lower is farther", square(1), 2, 1, 1, 0);
    }

    private static void lowestNumberNotGreatestDistance() {
        // On layer 0 the lower of both neighbours, 1, 0, is 2 away and the higher one 3.
        pieceIs("the lower is nearer", square(0), 2, 0, 1, 0);
    }

    /** By the lower neighbour the way would cost 1 more. */
    private static void onlyWhatMakesUpTheDistance() {
        GridRipUp g = new GridRipUp(3, 2, 1, 0L);
        g.net();
        g.net();
        g.cost(0, 0, 0, 1);
        g.pin(0, 0, 0, 0);
        g.pin(0, 0, 1, 1);
        g.pin(1, 0, 2, 0);
        g.run(1);
        Check.due("the lower is dearer by 1: costOf(0)", g.costOf(0), 4);
        pieceIs("the lower is dearer by 1", g, 2, 0, 0, 1);
    }

    /** The lower neighbours are BARRED, or another net's pins. */
    private static void onlyCellsWithADistance() {
        GridRipUp barred = new GridRipUp(2, 2, 1, 0L);
        barred.net();
        barred.bar(0, 1, 0);
        barred.pin(0, 0, 0, 0);
        barred.pin(0, 0, 1, 1);
        barred.run(1);
        pieceIs("the lower is BARRED", barred, 2, 0, 0, 1);

        GridRipUp held = new GridRipUp(2, 2, 1, 0L);
        held.net();
        held.net();
        held.pin(1, 0, 1, 0);
        held.pin(0, 0, 0, 0);
        held.pin(0, 0, 1, 1);
        held.run(1);
        pieceIs("the lower is another's pin", held, 2, 0, 0, 1);
    }

    /** A third pin between two cells of the tree: the way is the pin alone, as both are in the tree. */
    private static void backToTheNearestOfTheTree() {
        GridRipUp g = new GridRipUp(3, 2, 1, 0L);
        g.net();
        g.pin(0, 0, 0, 0);
        g.pin(0, 0, 2, 0);
        g.pin(0, 0, 1, 1);
        g.run(1);
        Check.due("beside the tree: costOf(0)", g.costOf(0), 6);
        Check.due("beside the tree: a fourth piece", g.piece(0, 3, 2) + g.piece(0, 1, 2) + g.piece(0, 2, 2), 1);
        Check.noSuch("beside the tree: no fifth one", () -> g.piece(0, 4, 0));
    }
}

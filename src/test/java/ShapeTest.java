/** Promises 14 and 16: corridor and band. */
public final class ShapeTest {
    private static final int NONE = GridRipUp.NONE;

    public static void main(String[] args) {
        corridorOfPinsAndWays();
        corridorNumbers();
        bandOfABend();
        bandOfStraightAndOpen();
        bandOfAFork();
        bandOfCellsThatOnlyTouch();
        bandBesideAWay();
        bandOnEachLayer();
        bandOfEachBend();
        wrongInputs();
        Check.end();
    }

    private static void corridorOfPinsAndWays() {
        GridRipUp g = new GridRipUp(13, 2, 1, 0L);
        g.net();
        Check.due("without pins", g.corridor(0, 0), NONE);
        g.pin(0, 0, 12, 1);
        g.pin(0, 0, 0, 0);
        Check.due("OPEN: corridor(0, 0)", g.corridor(0, 0), 0);
        Check.due("OPEN: corridor(0, 1)", g.corridor(0, 1), 3);
        Check.due("OPEN: corridor(0, 2)", g.corridor(0, 2), NONE);
        g.run(1);
        for (int k = 0; k < 4; k++) {
            Check.due("LED: corridor(0, " + k + ")", g.corridor(0, k), k);
        }
        Check.due("LED: corridor(0, 4)", g.corridor(0, 4), NONE);
        Check.due("corridor(0, -1)", g.corridor(0, -1), NONE);
        Check.due("corridor(0, max)", g.corridor(0, Integer.MAX_VALUE), NONE);
        g.pin(0, 0, 12, 0);
        Check.due("OPEN again: corridor(0, 1)", g.corridor(0, 1), 3);
    }

    private static int blockOf(int x, int y, int layer, int i, int j) {
        GridRipUp g = new GridRipUp(x, y, 4, 0L);
        g.net();
        g.pin(0, layer, i, j);
        return g.corridor(0, 0);
    }

    private static void corridorNumbers() {
        Check.due("16 by 16, 5, 9", blockOf(16, 16, 0, 5, 9), 9);
        Check.due("16 by 16, 15, 15", blockOf(16, 16, 3, 15, 15), 15);
        Check.due("16 by 16, 3, 4", blockOf(16, 16, 1, 3, 4), 4);
        Check.due("5 by 5, 4, 4", blockOf(5, 5, 2, 4, 4), 3);
        Check.due("4 by 5, 3, 4", blockOf(4, 5, 0, 3, 4), 1);
        Check.due("8 by 8, 7, 3", blockOf(8, 8, 0, 7, 3), 1);
        Check.due("9 by 8, 0, 4", blockOf(9, 8, 0, 0, 4), 3);
    }

    /** A net that goes from 0, 0 over 1, 0 to 1, 1. */
    private static GridRipUp bend() {
        GridRipUp g = new GridRipUp(2, 2, 2, 0L);
        g.net();
        g.net();
        g.pin(0, 0, 0, 0);
        g.pin(0, 0, 1, 1);
        return g;
    }

    private static void bandOfABend() {
        GridRipUp barred = bend();
        Check.due("OPEN: band", barred.band(0), false);
        barred.run(1);
        Check.due("free corner: band", barred.band(0), true);
        barred.bar(1, 0, 1);
        Check.due("bar above the corner: band", barred.band(0), true);
        barred.bar(0, 0, 1);
        Check.due("barred corner: band", barred.band(0), false);
        Check.due("barred corner: it is LED still", barred.joined(0), true);

        GridRipUp held = bend();
        held.run(1);
        held.pin(1, 0, 0, 1);
        Check.due("held corner: band", held.band(0), false);
        held.run(1);
        Check.due("the other net: band", held.band(1), true);

        GridRipUp own = bend();
        own.pin(0, 0, 0, 1);
        own.pin(0, 0, 1, 0);
        own.run(1);
        Check.due("its own corner: band", own.band(0), true);
    }

    private static void bandOfStraightAndOpen() {
        GridRipUp g = new GridRipUp(3, 3, 2, 0L);
        g.net();
        g.net();
        Check.due("without pins: band", g.band(1), false);
        g.pin(0, 0, 0, 1);
        g.pin(0, 0, 2, 1);
        for (int i = 0; i < 3; i++) {
            g.bar(0, i, 0);
            g.bar(0, i, 2);
        }
        g.run(1);
        Check.due("straight between bars: band", g.band(0), true);

        GridRipUp via = new GridRipUp(2, 2, 2, 0L);
        via.net();
        via.bar(0, 0, 1);
        via.bar(0, 1, 1);
        via.bar(1, 0, 0);
        via.bar(1, 0, 1);
        via.pin(0, 0, 0, 0);
        via.pin(0, 1, 1, 1);
        via.run(1);
        Check.due("along i below and along j above is no bend", via.band(0), true);
    }

    private static void bandOfAFork() {
        for (int i = 0; i < 3; i += 2) {
            for (int j = 0; j < 2; j++) {
                GridRipUp g = new GridRipUp(3, 2, 1, 0L);
                g.net();
                g.pin(0, 0, 0, j);
                g.pin(0, 0, 2, j);
                g.pin(0, 0, 1, 1 - j);
                g.run(1);
                Check.due("a fork: band", g.band(0), true);
                g.bar(0, i, 1 - j);
                Check.due("a fork beside a bar: band", g.band(0), false);
            }
        }
    }

    private static void bandOfCellsThatOnlyTouch() {
        // 0,0 comes in first, then 0,1, 1,1 and 1,2: 0,2 is the corner of the second bend.
        GridRipUp g = new GridRipUp(2, 3, 1, 0L);
        g.net();
        g.pin(0, 0, 0, 0);
        g.pin(0, 0, 0, 1);
        g.pin(0, 0, 1, 1);
        g.pin(0, 0, 1, 2);
        g.run(1);
        Check.due("a stair: band", g.band(0), true);
        g.bar(0, 0, 2);
        Check.due("a stair beside a bar: band", g.band(0), false);
    }

    // Promise 16: "nor HELD by another net": by its way, too, as long as it is LED.
    private static void bandBesideAWay() {
        GridRipUp g = new GridRipUp(2, 3, 2, 0L);
        g.net();
        g.net();
        g.pin(0, 0, 0, 0);
        g.pin(0, 0, 1, 0);
        g.pin(0, 0, 1, 1);
        g.run(1);
        g.bar(1, 0, 2);
        g.pin(1, 0, 0, 2);
        g.pin(1, 1, 0, 1);
        Check.due("the other net is OPEN: band", g.band(0), true);
        g.run(1);
        Check.due("its way is the corner: i", g.piece(1, 2, 1), 0);
        Check.due("its way is the corner: j", g.piece(1, 2, 2), 1);
        Check.due("its way is the corner: band", g.band(0), false);
        Check.due("its way bends over layers alone: band", g.band(1), true);
        g.pin(1, 0, 1, 2);
        Check.due("its way is given up: band", g.band(0), true);
    }

    private static void bandOnEachLayer() {
        for (int layer = 0; layer < 4; layer++) {
            GridRipUp g = new GridRipUp(2, 2, 4, 0L);
            g.net();
            g.pin(0, layer, 0, 0);
            g.pin(0, layer, 1, 0);
            g.pin(0, layer, 1, 1);
            g.run(1);
            for (int other = 0; other < 4; other++) {
                if (other != layer) {
                    g.bar(other, 0, 1);
                }
            }
            Check.due("a bend on layer " + layer + ", others barred: band", g.band(0), true);
            g.bar(layer, 0, 1);
            Check.due("a bend on layer " + layer + ", its corner barred: band", g.band(0), false);
        }
    }

    // Promise 16: "at each of its cells": a stair of five cells bends at three of them.
    private static void bandOfEachBend() {
        int[][] stair = {{0, 0}, {1, 0}, {1, 1}, {2, 1}, {2, 2}};
        int[][] corners = {{0, 1}, {2, 0}, {1, 2}};
        for (int[] corner : corners) {
            GridRipUp g = new GridRipUp(3, 3, 1, 0L);
            g.net();
            for (int[] cell : stair) {
                g.pin(0, 0, cell[0], cell[1]);
            }
            g.run(1);
            g.bar(0, 0, 2);
            Check.due("a stair of free corners: band", g.band(0), true);
            g.bar(0, corner[0], corner[1]);
            Check.due("its corner " + corner[0] + ", " + corner[1] + " is barred: band", g.band(0), false);
        }
    }

    private static void wrongInputs() {
        GridRipUp g = new GridRipUp(2, 2, 1, 0L);
        g.net();
        Check.noSuch("corridor(1, 0)", () -> g.corridor(1, 0));
        Check.noSuch("corridor(-1, -1)", () -> g.corridor(-1, -1));
        Check.noSuch("band(1)", () -> g.band(1) ? 1 : 0);
        Check.noSuch("band(-1)", () -> g.band(-1) ? 1 : 0);
    }
}

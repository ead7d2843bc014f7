/** What is empty (no nets, no pins, none OPEN, nothing that blocks) and what is full (12 nets, 5 pins, all cells). */
public final class EmptyFullTest {
    private static final int NONE = GridRipUp.NONE;

    public static void main(String[] args) {
        noNets();
        netsWithoutPins();
        netOfOnePin();
        noNetIsOpen();
        nothingBlocks();
        blockedByThePinItself();
        blockedWhenLastToBeLed();
        twelveNets();
        twelveOpenNets();
        blockedByElevenNets();
        fivePins();
        fivePinsOnEveryCell();
        sixteenBlocks();
        everyCellIsBarred();
        everyCellIsHeld();
        pinsAreNotRipped();
        barsAreNotRipped();
        costsAndHistoryStandAtNothing();
        rippedNetsWaitForTheNextRound();
        the512thCall();
        Check.end();
    }

    private static GridRipUp withNets(int x, int y, int layers, int nets) {
        GridRipUp g = new GridRipUp(x, y, layers, 0L);
        for (int n = 0; n < nets; n++) {
            g.net();
        }
        return g;
    }

    // Promise 1: "No nets, nothing BARRED".
    private static void noNets() {
        GridRipUp g = new GridRipUp(16, 2, 4, 7L);
        Check.due("no nets: open(0)", g.open(0), NONE);
        Check.due("no nets: run(1)", g.run(1), 0);
        Check.due("no nets: run(20)", g.run(20), 0);
        Check.due("no nets: round()", g.round(), 0);
        for (int layer = 0; layer < 4; layer++) {
            for (int i = 0; i < 16; i++) {
                for (int j = 0; j < 2; j++) {
                    Check.due("no nets: history", g.history(layer, i, j), 0);
                    Check.due("nothing BARRED: bar", g.bar(layer, i, j), true);
                }
            }
        }
        Check.due("the first net", g.net(), 0);
    }

    // Promise 3: "A new net without pins"; Terms: "A net with pins that is not LED is OPEN".
    private static void netsWithoutPins() {
        GridRipUp g = withNets(3, 3, 1, 3);
        for (int n = 0; n < 3; n++) {
            withoutPins("before a run", g, n);
        }
        Check.due("without pins: run(20)", g.run(20), 0);
        Check.due("without pins: round()", g.round(), 0);
        g.pin(1, 0, 1, 1);
        Check.due("between nets without pins: open(0)", g.open(0), 1);
        Check.due("between nets without pins: open(1)", g.open(1), NONE);
        Check.due("between nets without pins: run(20)", g.run(20), 0);
        Check.due("between nets without pins: round()", g.round(), 1);
        withoutPins("behind a run", g, 0);
        withoutPins("behind a run", g, 2);
        for (int i = 0; i < 3; i++) {
            Check.due("they HOLD nothing: bar", g.bar(0, i, 0), true);
        }
    }

    private static void withoutPins(String when, GridRipUp g, int net) {
        Check.due(when + " without pins: joined", g.joined(net), false);
        Check.due(when + " without pins: costOf", g.costOf(net), NONE);
        Check.due(when + " without pins: ripped", g.ripped(net), 0);
        Check.due(when + " without pins: blocking", g.blocking(net, 0), NONE);
        Check.due(when + " without pins: corridor", g.corridor(net, 0), NONE);
        Check.due(when + " without pins: band", g.band(net), false);
        Check.noSuch(when + " without pins: piece", () -> g.piece(net, 0, 0));
    }

    // Terms: "its first pin is its tree. Then .. until all its pins are in it".
    private static void netOfOnePin() {
        GridRipUp g = withNets(3, 3, 2, 1);
        g.cost(1, 50, 50, 50);
        g.pin(0, 1, 2, 1);
        Check.due("one pin: open(0)", g.open(0), 0);
        Check.due("one pin, OPEN: joined", g.joined(0), false);
        Check.due("one pin, OPEN: band", g.band(0), false);
        Check.due("one pin, OPEN: corridor", g.corridor(0, 0), 0);
        for (int i = 0; i < 3; i++) {
            for (int j = 0; j < 3; j++) {
                g.bar(0, i, j);
                g.bar(1, i, j);
            }
        }
        Check.due("one pin among bars: run(1)", g.run(1), 0);
        Check.due("one pin: joined", g.joined(0), true);
        Check.due("one pin: costOf", g.costOf(0), 0);
        Check.due("one pin: layer", g.piece(0, 0, 0), 1);
        Check.due("one pin: i", g.piece(0, 0, 1), 2);
        Check.due("one pin: j", g.piece(0, 0, 2), 1);
        Check.noSuch("one pin: a second piece", () -> g.piece(0, 1, 0));
        Check.due("one pin: blocking", g.blocking(0, 0), NONE);
        Check.due("one pin: band", g.band(0), true);
    }

    // Promise 6: "but none when no net is OPEN".
    private static void noNetIsOpen() {
        GridRipUp g = withNets(4, 1, 1, 2);
        g.pin(0, 0, 0, 0);
        g.pin(0, 0, 1, 0);
        Check.due("one OPEN: run(20)", g.run(20), 0);
        Check.due("a ROUND was enough", g.round(), 1);
        for (int rounds = 1; rounds <= 20; rounds++) {
            Check.due("none OPEN: run(" + rounds + ")", g.run(rounds), 0);
            Check.due("none OPEN: round()", g.round(), 1);
        }
        Check.due("none OPEN: costOf stays", g.costOf(0), 2);
        g.pin(0, 0, 3, 0);
        Check.due("OPEN again: run(20)", g.run(20), 0);
        Check.due("a ROUND more", g.round(), 2);
    }

    // Promise 12: "NONE, when there are not so many".
    private static void nothingBlocks() {
        GridRipUp g = withNets(5, 3, 1, 2);
        for (int j = 0; j < 3; j++) {
            g.bar(0, 2, j);
        }
        g.pin(0, 0, 0, 1);
        g.pin(0, 0, 4, 1);
        g.pin(1, 0, 4, 2);
        Check.due("bars alone: run(3)", g.run(3), 1);
        Check.due("bars alone: open(0)", g.open(0), 0);
        Check.due("bars alone: blocking(0, 0)", g.blocking(0, 0), NONE);
        Check.due("bars alone: HOLDS its pins alone", g.bar(0, 0, 0) && g.bar(0, 1, 1) && g.bar(0, 4, 0), true);
        Check.due("bars alone: HOLDS its pins", g.bar(0, 0, 1) || g.bar(0, 4, 1), false);
    }

    // Terms: "a cell with a DISTANCE in the FREE search (the tree's, too)".
    private static void blockedByThePinItself() {
        GridRipUp g = withNets(4, 2, 2, 4);
        g.pin(0, 0, 0, 0);
        g.pin(0, 0, 3, 0);
        g.pin(1, 0, 1, 0);
        g.pin(2, 0, 0, 1);
        g.pin(3, 1, 0, 0);
        Check.due("no free cell: run(1)", g.run(1), 1);
        for (int k = 0; k < 3; k++) {
            Check.due("no free cell: blocking(0, " + k + ")", g.blocking(0, k), k + 1);
        }
        Check.due("no free cell: blocking(0, 3)", g.blocking(0, 3), NONE);
    }

    // Promise 12: "by which a net was BLOCKED when it was last to be LED; NONE, when .. that was done".
    private static void blockedWhenLastToBeLed() {
        GridRipUp g = withNets(5, 3, 1, 3);
        for (int j = 0; j < 3; j++) {
            g.bar(0, 3, j);
        }
        g.bar(0, 1, 0);
        g.bar(0, 1, 2);
        g.pin(1, 0, 2, 0);
        g.pin(1, 0, 2, 2);
        g.pin(0, 0, 0, 1);
        Check.due("never to be LED: blocking(0, 0)", g.blocking(0, 0), NONE);
        g.run(1);
        Check.due("LED: blocking(0, 0)", g.blocking(0, 0), NONE);
        g.pin(0, 0, 4, 1);
        Check.due("OPEN by a pin, LED before: blocking(0, 0)", g.blocking(0, 0), NONE);
        g.run(1);
        Check.due("beside a way: blocking(0, 0)", g.blocking(0, 0), 1);
        Check.due("beside a way: blocking(0, 1)", g.blocking(0, 1), NONE);
        g.pin(2, 0, 0, 0);
        g.bar(0, 1, 1);
        Check.due("a new neighbour, bars before the way, not to be LED yet: blocking(0, 0)", g.blocking(0, 0), 1);
        g.pin(0, 0, 4, 2);
        Check.due("a pin more, not to be LED yet: blocking(0, 0)", g.blocking(0, 0), 1);
        g.run(1);
        Check.due("to be LED again: blocking(0, 0)", g.blocking(0, 0), 2);
        Check.due("to be LED again: blocking(0, 1)", g.blocking(0, 1), NONE);
    }

    // Terms: "NETS 0 .. 11"; promise 3: "NONE when there are 12".
    private static void twelveNets() {
        GridRipUp g = new GridRipUp(12, 1, 1, 0L);
        for (int n = 0; n < 12; n++) {
            Check.due("net()", g.net(), n);
        }
        for (int again = 0; again < 3; again++) {
            Check.due("net() of 12", g.net(), NONE);
        }
        Check.noSuch("joined(12)", () -> g.joined(12) ? 1 : 0);
        Check.noSuch("pin(12, ..)", () -> g.pin(12, 0, 0, 0) ? 1 : 0);
        Check.due("joined(11)", g.joined(11), false);
        for (int n = 0; n < 12; n++) {
            Check.due("a pin of net " + n, g.pin(n, 0, n, 0), true);
        }
        Check.due("net() of 12 with pins", g.net(), NONE);
        Check.due("run(1) of 12", g.run(1), 0);
        Check.due("net() of 12 LED ones", g.net(), NONE);
    }

    private static void twelveOpenNets() {
        GridRipUp g = withNets(12, 3, 1, 12);
        for (int n = 0; n < 12; n++) {
            g.pin(n, 0, n, 0);
            g.pin(n, 0, n, 2);
            g.bar(0, n, 1);
        }
        for (int n = 0; n < 12; n++) {
            Check.due("12 OPEN: open(" + n + ")", g.open(n), n);
        }
        Check.due("12 OPEN: open(12)", g.open(12), NONE);
        Check.due("12 OPEN: run(20)", g.run(20), 12);
        Check.due("12 OPEN: round()", g.round(), 20);
        Check.due("12 OPEN: open(11)", g.open(11), 11);
        Check.due("12 OPEN: open(12) behind the run", g.open(12), NONE);
    }

    private static void blockedByElevenNets() {
        for (int blocked = 0; blocked < 12; blocked++) {
            GridRipUp g = withNets(14, 3, 1, 12);
            g.bar(0, 12, 0);
            g.bar(0, 12, 1);
            g.bar(0, 12, 2);
            g.pin(blocked, 0, 0, 1);
            g.pin(blocked, 0, 13, 1);
            for (int n = 0; n < 12; n++) {
                if (n != blocked) {
                    g.pin(n, 0, n, n % 2 * 2);
                }
            }
            Check.due("by 11: run(1)", g.run(1), 1);
            for (int k = 0; k < 11; k++) {
                Check.due("by 11: blocking(.., " + k + ")", g.blocking(blocked, k), k < blocked ? k : k + 1);
            }
            Check.due("by 11: blocking(.., 11)", g.blocking(blocked, 11), NONE);
        }
    }

    // Terms: "PINS, up to 5"; promise 4: "false, changing nothing, when .. it has 5".
    private static void fivePins() {
        GridRipUp g = withNets(8, 2, 2, 2);
        for (int p = 0; p < 5; p++) {
            Check.due("pin " + p, g.pin(0, p % 2, p, p % 2), true);
        }
        Check.due("a sixth pin, OPEN", g.pin(0, 0, 7, 0), false);
        Check.due("a sixth pin where one is", g.pin(0, 0, 0, 0), false);
        Check.due("the other net's first pin there", g.pin(1, 0, 7, 0), true);
        Check.due("run(1)", g.run(1), 0);
        long cost = g.costOf(0);
        Check.due("a sixth pin, LED", g.pin(0, 0, 6, 0), false);
        Check.due("a sixth pin on its own way", g.pin(0, g.piece(0, 2, 0), g.piece(0, 2, 1), g.piece(0, 2, 2)), false);
        Check.due("still LED", g.joined(0), true);
        Check.due("at the same COST", g.costOf(0), cost);
        Check.due("the other net has its own five", g.pin(1, 0, 6, 0), true);
        Check.due("where the sixth was refused nothing is HELD", g.bar(1, 6, 0), true);
    }

    private static void fivePinsOnEveryCell() {
        GridRipUp g = withNets(5, 1, 1, 1);
        for (int i = 4; i >= 0; i--) {
            Check.due("pin on cell " + i, g.pin(0, 0, i, 0), true);
        }
        Check.due("all cells are pins: run(1)", g.run(1), 0);
        Check.due("all cells are pins: costOf(0)", g.costOf(0), 8);
        for (int k = 0; k < 5; k++) {
            Check.due("all cells are pins: i of piece " + k, g.piece(0, k, 1), 4 - k);
        }
        Check.noSuch("all cells are pins: a sixth piece", () -> g.piece(0, 5, 0));
    }

    // Promise 14: blocks of 4 by 4 cells, 16 of them on the greatest grid.
    private static void sixteenBlocks() {
        GridRipUp g = withNets(16, 16, 1, 1);
        for (int wall = 0; wall < 3; wall++) {
            int gap = wall % 2 == 0 ? 15 : 0;
            for (int i = 0; i < 16; i++) {
                if (i != gap) {
                    g.bar(0, i, 4 * wall + 3);
                }
            }
        }
        g.pin(0, 0, 0, 0);
        g.pin(0, 0, 0, 15);
        Check.due("16 blocks, OPEN: corridor(0, 0)", g.corridor(0, 0), 0);
        Check.due("16 blocks, OPEN: corridor(0, 1)", g.corridor(0, 1), 12);
        Check.due("16 blocks, OPEN: corridor(0, 2)", g.corridor(0, 2), NONE);
        g.run(1);
        for (int k = 0; k < 16; k++) {
            Check.due("16 blocks: corridor(0, " + k + ")", g.corridor(0, k), k);
        }
        Check.due("16 blocks: corridor(0, 16)", g.corridor(0, 16), NONE);
        Check.due("16 blocks: corridor(0, 32)", g.corridor(0, 32), NONE);
    }

    private static void everyCellIsBarred() {
        GridRipUp g = withNets(3, 3, 2, 1);
        for (int c = 0; c < 18; c++) {
            Check.due("bar", g.bar(c / 9, c % 3, c / 3 % 3), true);
        }
        for (int c = 0; c < 18; c++) {
            Check.due("bar again", g.bar(c / 9, c % 3, c / 3 % 3), false);
            Check.due("pin on a bar", g.pin(0, c / 9, c % 3, c / 3 % 3), false);
        }
        Check.due("all BARRED: open(0)", g.open(0), NONE);
        Check.due("all BARRED: run(20)", g.run(20), 0);
    }

    private static void everyCellIsHeld() {
        GridRipUp g = withNets(6, 2, 1, 12);
        for (int n = 0; n < 12; n++) {
            g.pin(n, 0, n % 6, n / 6);
        }
        Check.due("all HELD, OPEN: bar", g.bar(0, 0, 0), false);
        Check.due("all HELD: run(1)", g.run(1), 0);
        for (int n = 0; n < 12; n++) {
            Check.due("all HELD: bar", g.bar(0, n % 6, n / 6), false);
            Check.due("all HELD: its own pin", g.pin(n, 0, n % 6, n / 6), false);
            Check.due("all HELD: another's pin", g.pin(11 - n, 0, n % 6, n / 6), false);
            Check.due("all HELD: joined", g.joined(n), true);
        }
    }

    // Terms: "over cells that other nets HOLD, too, but their pins".
    private static void pinsAreNotRipped() {
        GridRipUp g = withNets(3, 1, 1, 2);
        g.pin(1, 0, 1, 0);
        g.run(1);
        g.pin(0, 0, 0, 0);
        g.pin(0, 0, 2, 0);
        Check.due("a pin in the way: run(20)", g.run(20), 1);
        Check.due("a pin in the way: joined(1)", g.joined(1), true);
        Check.due("a pin in the way: ripped(1)", g.ripped(1), 0);
        Check.due("a pin in the way: history", g.history(0, 1, 0), 0);
        Check.due("a pin in the way: blocking(0, 0)", g.blocking(0, 0), 1);
    }

    // Terms: "BARRED cells are never gone through": in a RIPPING search neither.
    private static void barsAreNotRipped() {
        GridRipUp g = withNets(3, 3, 1, 2);
        g.pin(1, 0, 1, 0);
        g.pin(1, 0, 1, 1);
        g.run(1);
        g.bar(0, 1, 2);
        g.pin(0, 0, 0, 2);
        g.pin(0, 0, 2, 2);
        Check.due("a bar in the way: run(20)", g.run(20), 1);
        Check.due("a bar in the way: ripped(1)", g.ripped(1), 0);
        Check.due("a bar in the way: blocking(0, 0)", g.blocking(0, 0), 1);
        Check.due("a bar in the way: blocking(0, 1)", g.blocking(0, 1), NONE);
    }

    // Terms: "COSTS of a layer, all 0 at first"; HISTORY grows only where another net is ripped.
    private static void costsAndHistoryStandAtNothing() {
        GridRipUp g = withNets(3, 3, 4, 1);
        for (int layer = 0; layer < 4; layer++) {
            Check.due("costs are 0 at first, layer " + layer, g.cost(layer, 0, 0, 0), false);
        }
        g.pin(0, 0, 0, 0);
        g.pin(0, 3, 2, 2);
        g.run(1);
        Check.due("7 steps of 2", g.costOf(0), 14);
        for (int c = 0; c < 36; c++) {
            Check.due("nothing was ripped: history", g.history(c / 9, c % 3, c / 3 % 3), 0);
        }
        Check.due("nothing was ripped: ripped(0)", g.ripped(0), 0);
    }

    // Terms: "the nets that are OPEN at its beginning".
    private static void rippedNetsWaitForTheNextRound() {
        GridRipUp g = withNets(3, 3, 1, 2);
        g.pin(0, 0, 0, 1);
        g.pin(0, 0, 2, 1);
        g.run(1);
        g.pin(1, 0, 1, 0);
        g.pin(1, 0, 1, 2);
        Check.due("one is ripped: run(1)", g.run(1), 1);
        Check.due("one is ripped: it waits", g.open(0), 0);
        Check.due("one is ripped: joined(1)", g.joined(1), true);
        Check.due("one is ripped: ripped(1)", g.ripped(1), 0);
        Check.due("one is ripped: it is not BLOCKED", g.blocking(0, 0), NONE);
        Check.due("one is ripped: costOf(1)", g.costOf(1), 104);
        Check.due("the next ROUND: run(1)", g.run(1), 1);
        Check.due("the next ROUND: open(0)", g.open(0), 1);
        Check.due("the next ROUND: costOf(0)", g.costOf(0), 105);
    }

    // "An object is used for at most 512 calls": the 512th still answers, whatever has come together by then.
    private static void the512thCall() {
        int rounds = 505 * 20;
        Check.due("the 512th call: history", crossingFor511Calls().history(0, 1, 1), rounds);
        Check.due("the 512th call: round", crossingFor511Calls().round(), rounds);
        // They take turns: each is ripped in every second ROUND.
        Check.due("the 512th call: ripped(0)", crossingFor511Calls().ripped(0), rounds / 2);
        Check.due("the 512th call: ripped(1)", crossingFor511Calls().ripped(1), rounds / 2);
        GridRipUp g = crossingFor511Calls();
        int led = crossingFor511Calls().joined(0) ? 0 : 1;
        Check.due("the 512th call: costOf", g.costOf(led), 104 + rounds - 1);
    }

    private static GridRipUp crossingFor511Calls() {
        GridRipUp g = withNets(3, 3, 1, 2);
        g.pin(0, 0, 0, 1);
        g.pin(0, 0, 2, 1);
        g.pin(1, 0, 1, 0);
        g.pin(1, 0, 1, 2);
        for (int calls = 6; calls < 511; calls++) {
            Check.due("call " + calls + ": run(20)", g.run(20), 1);
        }
        return g;
    }
}

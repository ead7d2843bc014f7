/** Promises 1 to 5: a new object, bar, net, pin and cost (but for what the costs do to ways). */
public final class SetUpTest {
    private static final int NONE = GridRipUp.NONE;

    public static void main(String[] args) {
        newObject();
        sidesAreHeld();
        bar();
        barredCellsAreGoneRound();
        nets();
        pin();
        pinOpensALedNet();
        pinsAreFiveAtMost();
        cost();
        Check.end();
    }

    private static void newObject() {
        GridRipUp g = new GridRipUp(3, 2, 2, 5L);
        Check.due("new: open(0)", g.open(0), NONE);
        Check.due("new: round()", g.round(), 0);
        Check.due("new: run(20)", g.run(20), 0);
        Check.due("new: round() behind a run", g.round(), 0);
        Check.noSuch("new: joined(0)", () -> g.joined(0) ? 1 : 0);
        for (int layer = 0; layer < 2; layer++) {
            for (int j = 0; j < 2; j++) {
                for (int i = 0; i < 3; i++) {
                    Check.due("new: history", g.history(layer, i, j), 0);
                    Check.due("new: bar", g.bar(layer, i, j), true);
                }
            }
        }
    }

    private static void sides(int x, int y, int layers, int heldX, int heldY, int heldLayers) {
        GridRipUp g = new GridRipUp(x, y, layers, 0L);
        String name = "new(" + x + ", " + y + ", " + layers + "): ";
        Check.due(name + "the last cell", g.history(heldLayers - 1, heldX - 1, heldY - 1), 0);
        Check.noSuch(name + "i behind it", () -> g.history(0, heldX, 0));
        Check.noSuch(name + "j behind it", () -> g.history(0, 0, heldY));
        Check.noSuch(name + "layer behind it", () -> g.history(heldLayers, 0, 0));
    }

    private static void sidesAreHeld() {
        sides(0, 0, 0, 1, 1, 1);
        sides(-7, Integer.MIN_VALUE, -1, 1, 1, 1);
        sides(1, 1, 1, 1, 1, 1);
        sides(16, 16, 4, 16, 16, 4);
        sides(17, 17, 5, 16, 16, 4);
        sides(Integer.MAX_VALUE, Integer.MAX_VALUE, Integer.MAX_VALUE, 16, 16, 4);
        sides(3, 99, 2, 3, 16, 2);
    }

    private static void bar() {
        GridRipUp g = new GridRipUp(4, 3, 2, 0L);
        Check.due("bar(1, 3, 2)", g.bar(1, 3, 2), true);
        Check.due("bar(1, 3, 2) again", g.bar(1, 3, 2), false);
        Check.due("bar(0, 3, 2), below it", g.bar(0, 3, 2), true);
        g.net();
        g.pin(0, 0, 0, 0);
        g.pin(0, 0, 2, 0);
        Check.due("bar of an OPEN net's pin", g.bar(0, 0, 0), false);
        g.run(1);
        Check.due("bar of a LED net's way", g.bar(0, 1, 0), false);
        g.pin(0, 0, 0, 2);
        Check.due("bar of a way that is given up", g.bar(0, 1, 0), true);
        Check.due("bar of its pin still", g.bar(0, 2, 0), false);
        Check.noSuch("bar(-1, 0, 0)", () -> g.bar(-1, 0, 0) ? 1 : 0);
        Check.noSuch("bar(2, 0, 0)", () -> g.bar(2, 0, 0) ? 1 : 0);
        Check.noSuch("bar(0, -1, 0)", () -> g.bar(0, -1, 0) ? 1 : 0);
        Check.noSuch("bar(0, 4, 0)", () -> g.bar(0, 4, 0) ? 1 : 0);
        Check.noSuch("bar(0, 0, -1)", () -> g.bar(0, 0, -1) ? 1 : 0);
        Check.noSuch("bar(0, 0, 3)", () -> g.bar(0, 0, 3) ? 1 : 0);
        Check.noSuch("bar(min, max, min)",
                () -> g.bar(Integer.MIN_VALUE, Integer.MAX_VALUE, Integer.MIN_VALUE) ? 1 : 0);
    }

    private static void barredCellsAreGoneRound() {
        GridRipUp g = new GridRipUp(3, 2, 1, 0L);
        g.net();
        g.pin(0, 0, 0, 0);
        g.pin(0, 0, 2, 0);
        g.bar(0, 1, 0);
        g.run(1);
        Check.due("round a bar: costOf(0)", g.costOf(0), 8);
        Check.due("round a bar: j of the way's middle", g.piece(0, 2, 2), 1);

        GridRipUp closed = new GridRipUp(3, 1, 1, 0L);
        closed.net();
        closed.pin(0, 0, 0, 0);
        closed.pin(0, 0, 2, 0);
        closed.bar(0, 1, 0);
        Check.due("behind a bar: run(1)", closed.run(1), 1);
        Check.due("behind a bar: blocking(0, 0)", closed.blocking(0, 0), NONE);
    }

    private static void nets() {
        GridRipUp g = new GridRipUp(4, 4, 1, 0L);
        for (int n = 0; n < 12; n++) {
            int number = n;
            Check.noSuch("joined of a net to come", () -> g.joined(number) ? 1 : 0);
            Check.due("net()", g.net(), n);
            Check.due("a new net is no OPEN one", g.open(0), NONE);
            Check.due("a new net is no LED one", g.joined(n), false);
            Check.due("a new net HOLDS nothing", g.corridor(n, 0), NONE);
        }
        Check.due("net() of 12", g.net(), NONE);
        Check.due("net() of 12 again", g.net(), NONE);
        Check.noSuch("joined(12)", () -> g.joined(12) ? 1 : 0);
        Check.due("a pin of the last net", g.pin(11, 0, 0, 0), true);
    }

    private static void pin() {
        GridRipUp g = new GridRipUp(4, 3, 2, 0L);
        g.net();
        g.net();
        g.bar(0, 3, 2);
        Check.due("pin(0, 0, 0, 1)", g.pin(0, 0, 0, 1), true);
        Check.due("its net is OPEN", g.open(0), 0);
        Check.due("the same pin again", g.pin(0, 0, 0, 1), false);
        Check.due("another net's pin there", g.pin(1, 0, 0, 1), false);
        Check.due("nothing changed by that", g.open(1), NONE);
        Check.due("pin on a BARRED cell", g.pin(0, 0, 3, 2), false);
        Check.due("pin above a pin", g.pin(1, 1, 0, 1), true);
        g.pin(0, 0, 2, 1);
        g.run(1);
        Check.due("pin on another net's way", g.pin(1, 0, 1, 1), false);
        Check.due("its net is LED still", g.joined(1), true);
        Check.due("a refused pin leaves its net LED", g.pin(0, 0, 3, 2), false);
        Check.due("so it is", g.joined(0), true);
        Check.noSuch("pin(2, 0, 0, 0)", () -> g.pin(2, 0, 0, 0) ? 1 : 0);
        Check.noSuch("pin(-1, 0, 0, 0)", () -> g.pin(-1, 0, 0, 0) ? 1 : 0);
        Check.noSuch("pin(0, 2, 0, 0)", () -> g.pin(0, 2, 0, 0) ? 1 : 0);
        Check.noSuch("pin(0, -1, 0, 0)", () -> g.pin(0, -1, 0, 0) ? 1 : 0);
        Check.noSuch("pin(0, 0, 4, 0)", () -> g.pin(0, 0, 4, 0) ? 1 : 0);
        Check.noSuch("pin(0, 0, -1, 0)", () -> g.pin(0, 0, -1, 0) ? 1 : 0);
        Check.noSuch("pin(0, 0, 0, 3)", () -> g.pin(0, 0, 0, 3) ? 1 : 0);
        Check.noSuch("pin(0, 0, 0, -1)", () -> g.pin(0, 0, 0, -1) ? 1 : 0);
    }

    private static void pinOpensALedNet() {
        GridRipUp g = new GridRipUp(5, 1, 1, 0L);
        g.net();
        g.pin(0, 0, 0, 0);
        g.pin(0, 0, 4, 0);
        g.run(1);
        Check.due("LED: costOf(0)", g.costOf(0), 8);
        Check.due("a pin on its own way", g.pin(0, 0, 2, 0), true);
        Check.due("it is LED no more", g.joined(0), false);
        Check.due("it is OPEN", g.open(0), 0);
        Check.due("it has no COST", g.costOf(0), NONE);
        Check.due("it was not ripped", g.ripped(0), 0);
        Check.due("it is not BLOCKED", g.blocking(0, 0), NONE);
        Check.noSuch("it has no pieces", () -> g.piece(0, 0, 0));
        Check.due("it HOLDS its new pin", g.bar(0, 2, 0), false);
        Check.due("it does not HOLD its way", g.bar(0, 1, 0), true);
    }

    private static void pinsAreFiveAtMost() {
        GridRipUp g = new GridRipUp(16, 1, 1, 0L);
        g.net();
        for (int p = 0; p < 5; p++) {
            Check.due("pin " + p, g.pin(0, 0, 2 * p, 0), true);
        }
        Check.due("a sixth pin", g.pin(0, 0, 15, 0), false);
        Check.due("the sixth is not HELD", g.bar(0, 15, 0), true);
        Check.due("run(1)", g.run(1), 0);
        Check.due("a sixth pin of a LED net", g.pin(0, 0, 12, 0), false);
        Check.due("it stays LED", g.joined(0), true);
        Check.due("costOf(0)", g.costOf(0), 16);
    }

    private static void cost() {
        GridRipUp g = new GridRipUp(2, 2, 2, 0L);
        Check.due("costs are 0 at first", g.cost(0, 0, 0, 0), false);
        Check.due("another ACROSS", g.cost(1, 50, 0, 0), true);
        Check.due("another VIA", g.cost(1, 50, 50, 0), true);
        Check.due("another NEAR", g.cost(1, 50, 50, 50), true);
        Check.due("the same", g.cost(1, 50, 50, 50), false);
        Check.due("the other layer has its own", g.cost(0, 0, 0, 0), false);
        Check.illegal("ACROSS 51", () -> g.cost(1, 51, 0, 0) ? 1 : 0);
        Check.illegal("VIA 51", () -> g.cost(1, 0, 51, 0) ? 1 : 0);
        Check.illegal("NEAR 51", () -> g.cost(1, 0, 0, 51) ? 1 : 0);
        Check.illegal("ACROSS -1", () -> g.cost(1, -1, 0, 0) ? 1 : 0);
        Check.illegal("VIA -1", () -> g.cost(1, 0, -1, 0) ? 1 : 0);
        Check.illegal("NEAR -1", () -> g.cost(1, 0, 0, -1) ? 1 : 0);
        Check.noSuch("layer 2", () -> g.cost(2, 0, 0, 0) ? 1 : 0);
        Check.noSuch("layer -1", () -> g.cost(-1, 0, 0, 0) ? 1 : 0);
        Check.noSuch("layer 2 and ACROSS 51", () -> g.cost(2, 51, 0, 0) ? 1 : 0);
        Check.due("what threw changed nothing", g.cost(1, 50, 50, 50), false);
        Check.due("back to 0", g.cost(1, 0, 0, 0), true);
    }
}

import java.util.ArrayList;
import java.util.List;

/** Each call that is refused (false, NONE or an exception) changes nothing, in each of some states. */
public final class RefusedTest {
    private static final int NONE = GridRipUp.NONE;
    private static final int X = 5;
    private static final int Y = 3;
    private static final int LAYERS = 2;
    private static final int ACROSS = 3;
    private static final int VIA = 4;
    private static final int NEAR = 1;

    private interface Scene {
        GridRipUp make();
    }

    private interface Asked {
        long of(GridRipUp g);
    }

    private final String name;
    private final Scene scene;
    private final int nets;

    private RefusedTest(String name, int nets, Scene scene) {
        this.name = name;
        this.nets = nets;
        this.scene = scene;
    }

    public static void main(String[] args) {
        for (long seed = 0; seed < 4; seed++) {
            long seeded = seed;
            new RefusedTest("fresh", 0, () -> new GridRipUp(X, Y, LAYERS, seeded)).refusedEverywhere();
            RefusedTest open = new RefusedTest("open", 5, () -> openNets(seeded));
            open.refusedEverywhere();
            open.refusedBarsAndPins();
            RefusedTest led = new RefusedTest("led", 5, () -> afterRounds(seeded));
            led.refusedEverywhere();
            led.refusedBarsAndPins();
            led.refusedPiecesOf(seeded);
            RefusedTest full = new RefusedTest("full", 12, () -> full(seeded));
            full.refusedEverywhere();
            full.refusedWhenFull();
        }
        Check.end();
    }

    // Nets 0 and 1 need the same cell, net 2 is cut off by bars, net 3 is a via behind them, net 4 has no pins.
    private static GridRipUp openNets(long seed) {
        GridRipUp g = new GridRipUp(X, Y, LAYERS, seed);
        for (int n = 0; n < 5; n++) {
            g.net();
        }
        g.cost(0, ACROSS, VIA, NEAR);
        g.pin(3, 0, 4, 2);
        g.pin(3, 1, 4, 2);
        for (int c = 0; c < X * Y; c++) {
            g.bar(1, c % X, c / X);
        }
        for (int j = 0; j < Y; j++) {
            g.bar(0, 3, j);
        }
        g.pin(0, 0, 0, 1);
        g.pin(0, 0, 2, 1);
        g.pin(1, 0, 1, 0);
        g.pin(1, 0, 1, 2);
        g.pin(2, 0, 0, 0);
        g.pin(2, 0, 4, 0);
        return g;
    }

    // One of the nets 0 and 1 is LED, the other was ripped; net 2 is BLOCKED.
    private static GridRipUp afterRounds(long seed) {
        GridRipUp g = openNets(seed);
        g.run(3);
        return g;
    }

    // 12 nets; net 0 with five pins, LED; net 11 with five pins, OPEN.
    private static GridRipUp full(long seed) {
        GridRipUp g = new GridRipUp(X, Y, LAYERS, seed);
        for (int n = 0; n < 12; n++) {
            g.net();
        }
        g.cost(0, ACROSS, VIA, NEAR);
        for (int i = 0; i < 5; i++) {
            g.pin(0, 0, i, i % 2);
        }
        g.run(1);
        for (int i = 0; i < 4; i++) {
            g.pin(11, 0, i, 2);
        }
        g.pin(11, 0, 4, 1);
        return g;
    }

    /** The calls that are refused in every state. */
    private void refusedEverywhere() {
        int[][] wrongCells = {{-1, 0, 0}, {LAYERS, 0, 0}, {0, -1, 0}, {0, X, 0}, {0, 0, -1}, {0, 0, Y}};
        for (int[] c : wrongCells) {
            throwsNoSuch("bar of no cell", g -> g.bar(c[0], c[1], c[2]) ? 1 : 0);
            throwsNoSuch("history of no cell", g -> g.history(c[0], c[1], c[2]));
            throwsNoSuch("pin on no cell", g -> g.pin(0, c[0], c[1], c[2]) ? 1 : 0);
            throwsNoSuch("pin of no net on no cell", g -> g.pin(nets, c[0], c[1], c[2]) ? 1 : 0);
        }
        int[] wrongNets = {-1, nets};
        for (int n : wrongNets) {
            throwsNoSuch("pin of no net", g -> g.pin(n, 0, 2, 2) ? 1 : 0);
            throwsNoSuch("piece of no net", g -> g.piece(n, 0, 0));
            throwsNoSuch("costOf no net", g -> g.costOf(n));
            throwsNoSuch("ripped of no net", g -> g.ripped(n));
            throwsNoSuch("blocking of no net", g -> g.blocking(n, 0));
            throwsNoSuch("joined of no net", g -> g.joined(n) ? 1 : 0);
            throwsNoSuch("corridor of no net", g -> g.corridor(n, 0));
            throwsNoSuch("band of no net", g -> g.band(n) ? 1 : 0);
        }
        int[] wrongLayers = {-1, LAYERS};
        for (int layer : wrongLayers) {
            throwsNoSuch("cost of no layer", g -> g.cost(layer, 5, 6, 7) ? 1 : 0);
        }
        int[] wrongCosts = {-1, 51};
        for (int value : wrongCosts) {
            throwsIllegal("cost: ACROSS " + value, g -> g.cost(0, value, 6, 7) ? 1 : 0);
            throwsIllegal("cost: VIA " + value, g -> g.cost(0, 5, value, 7) ? 1 : 0);
            throwsIllegal("cost: NEAR " + value, g -> g.cost(0, 5, 6, value) ? 1 : 0);
        }
        int[] wrongRounds = {0, -1, 21};
        for (int rounds : wrongRounds) {
            throwsIllegal("run(" + rounds + ")", g -> g.run(rounds));
        }
        answersThat("open(-1)", NONE, g -> g.open(-1));
        answersThat("open(12)", NONE, g -> g.open(12));
    }

    /** Nets 0 to 3 have pins here, net 4 has none; the cells with i 3 are BARRED. */
    private void refusedBarsAndPins() {
        answersThat("bar of a BARRED cell", 0, g -> g.bar(0, 3, 1) ? 1 : 0);
        answersThat("bar of a pin", 0, g -> g.bar(0, 1, 0) ? 1 : 0);
        answersThat("bar of a BLOCKED net's pin", 0, g -> g.bar(0, 4, 0) ? 1 : 0);
        for (int n = 0; n < 5; n++) {
            int net = n;
            answersThat("pin on a BARRED cell", 0, g -> g.pin(net, 0, 3, 1) ? 1 : 0);
            answersThat("pin on a pin of net 0", 0, g -> g.pin(net, 0, 0, 1) ? 1 : 0);
            answersThat("pin on a pin of net 1", 0, g -> g.pin(net, 0, 1, 2) ? 1 : 0);
            answersThat("pin on a pin of net 2", 0, g -> g.pin(net, 0, 4, 0) ? 1 : 0);
        }
        answersThat("blocking(2, 12)", NONE, g -> g.blocking(2, 12));
        answersThat("corridor(0, -1)", NONE, g -> g.corridor(0, -1));
    }

    /** Calls that only a LED net's way, or its being OPEN, makes wrong. */
    private void refusedPiecesOf(long seed) {
        int led = afterRounds(seed).joined(0) ? 0 : 1;
        answersThat("bar of a way", 0, g -> g.bar(0, 1, 1) ? 1 : 0);
        answersThat("pin on another's way", 0, g -> g.pin(1 - led, 0, 1, 1) ? 1 : 0);
        answersThat("a net's first pin on another's way", 0, g -> g.pin(4, 0, 1, 1) ? 1 : 0);
        throwsNoSuch("no such piece", g -> g.piece(led, 3, 0));
        throwsNoSuch("piece -1", g -> g.piece(led, -1, 0));
        throwsNoSuch("no such what", g -> g.piece(led, 0, 3));
        throwsNoSuch("what -1", g -> g.piece(led, 0, -1));
        throwsNoSuch("piece of a ripped net", g -> g.piece(1 - led, 0, 0));
        throwsNoSuch("piece of a BLOCKED net", g -> g.piece(2, 0, 0));
        throwsNoSuch("piece of a net without pins", g -> g.piece(4, 0, 0));
    }

    private void refusedWhenFull() {
        answersThat("net() of 12", NONE, GridRipUp::net);
        answersThat("a sixth pin of a LED net", 0, g -> g.pin(0, 0, 4, 2) ? 1 : 0);
        answersThat("a sixth pin of an OPEN net", 0, g -> g.pin(11, 0, 4, 2) ? 1 : 0);
        answersThat("a sixth pin on the LED net's own way", 0,
                g -> g.pin(0, 0, g.piece(0, 2, 1), g.piece(0, 2, 2)) ? 1 : 0);
    }

    private void throwsNoSuch(String call, Asked asked) {
        GridRipUp g = scene.make();
        Check.noSuch(name + ", " + call, () -> asked.of(g));
        isUnchanged(call, g);
    }

    private void throwsIllegal(String call, Asked asked) {
        GridRipUp g = scene.make();
        Check.illegal(name + ", " + call, () -> asked.of(g));
        isUnchanged(call, g);
    }

    private void answersThat(String call, long want, Asked asked) {
        GridRipUp g = scene.make();
        Check.due(name + ", " + call, asked.of(g), want);
        isUnchanged(call, g);
    }

    private void isUnchanged(String call, GridRipUp g) {
        List<String> got = answers(g);
        List<String> want = answers(scene.make());
        for (int a = 0; a < want.size(); a++) {
            boolean same = a < got.size() && got.get(a).equals(want.get(a));
            Check.due(name + ", behind " + call + ": " + want.get(a), same, true);
        }
        Check.due(name + ", behind " + call + ": as many answers", got.size(), want.size());
    }

    /** What an object answers to all that can be asked, now and when its nets are led on, in less than 512 calls. */
    private List<String> answers(GridRipUp g) {
        List<String> found = new ArrayList<>();
        ask(g, found);
        found.add("run: " + g.run(2));
        ask(g, found);
        boolean empty = nets == 0;
        found.add("the costs are the same: " + g.cost(0, empty ? 0 : ACROSS, empty ? 0 : VIA, empty ? 0 : NEAR));
        found.add("the costs of layer 1 are: " + g.cost(1, 0, 0, 0));
        for (int c = 0; c < X * Y * LAYERS; c++) {
            found.add("bar: " + g.bar(c / (X * Y), c % X, c / X % Y));
        }
        found.add("net: " + g.net());
        return found;
    }

    private void ask(GridRipUp g, List<String> found) {
        for (int n = 0; n < nets; n++) {
            boolean led = g.joined(n);
            found.add("joined(" + n + "): " + led);
            found.add("costOf(" + n + "): " + g.costOf(n));
            found.add("ripped(" + n + "): " + g.ripped(n));
            found.add("band(" + n + "): " + g.band(n));
            found.add("corridor(" + n + "): " + g.corridor(n, 0) + g.corridor(n, 1));
            found.add("blocking(" + n + "): " + g.blocking(n, 0) + g.blocking(n, 1));
            for (int k = 0; led && k < 5; k++) {
                found.add("piece(" + n + ", " + k + "): " + pieceOf(g, n, k));
            }
        }
        for (int k = 0; k < 4; k++) {
            found.add("open(" + k + "): " + g.open(k));
        }
        for (int c = 0; c < X * Y * LAYERS; c++) {
            found.add("history: " + g.history(c / (X * Y), c % X, c / X % Y));
        }
        found.add("round: " + g.round());
    }

    private static String pieceOf(GridRipUp g, int net, int k) {
        try {
            return g.piece(net, k, 1) + ", " + g.piece(net, k, 2);
        } catch (IndexOutOfBoundsException e) {
            return "none";
        }
    }
}

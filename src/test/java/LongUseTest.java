import java.util.Random;

/** A whole object's 512 calls on the greatest grid, full of nets that are in each other's way. */
public final class LongUseTest {
    private static final int CALLS = 512;

    public static void main(String[] args) {
        Random random = new Random(4);
        GridRipUp g = new GridRipUp(16, 16, 4, -5L);
        int calls = 0;
        for (int n = 0; n < 12; n++) {
            Check.due("net()", g.net(), n);
            calls++;
        }
        // Bars leave a few gaps between the halves, so nets have to share them.
        for (int layer = 0; layer < 4; layer++) {
            for (int j = 0; j < 16; j++) {
                if (j % 8 != layer) {
                    g.bar(layer, 8, j);
                    calls++;
                }
            }
        }
        for (int n = 0; n < 12; n++) {
            for (int p = 0; p < 5; p++) {
                g.pin(n, random.nextInt(4), p % 2 == 0 ? random.nextInt(8) : 9 + random.nextInt(7), random.nextInt(16));
                calls++;
            }
        }
        for (int layer = 0; layer < 4; layer++) {
            g.cost(layer, 50, 50, 50);
            calls++;
        }
        while (calls < CALLS - 1) {
            int open = g.run(20);
            Check.due("run(20) answers a number of nets", open >= 0 && open <= 12, true);
            calls++;
        }
        Check.due("nets were in each other's way for many ROUNDS", g.round() > 100, true);
        Check.end();
    }
}

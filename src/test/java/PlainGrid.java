import java.util.ArrayList;
import java.util.Arrays;
import java.util.List;
import java.util.TreeSet;

/** The document told once more, as slowly and plainly as can be, to compare answers with. */
final class PlainGrid {
    static final class PlainNet {
        final List<Integer> pins = new ArrayList<>();
        List<Integer> tree = null;
        long cost = 0;
        int ripped = 0;
        TreeSet<Integer> blockedBy = new TreeSet<>();

        boolean holds(int cell) {
            return pins.contains(cell) || tree != null && tree.contains(cell);
        }

        boolean isOpen() {
            return !pins.isEmpty() && tree == null;
        }
    }

    final int x;
    final int y;
    final int layers;
    final int cells;
    final List<PlainNet> nets = new ArrayList<>();
    final TreeSet<Integer> barred = new TreeSet<>();
    final long[] history;
    final int[][] costs;
    int rounds = 0;
    private long s;

    PlainGrid(int x, int y, int layers, long seed) {
        this.x = x < 1 ? 1 : x > 16 ? 16 : x;
        this.y = y < 1 ? 1 : y > 16 ? 16 : y;
        this.layers = layers < 1 ? 1 : layers > 4 ? 4 : layers;
        cells = this.x * this.y * this.layers;
        history = new long[cells];
        costs = new int[this.layers][3];
        s = seed;
    }

    boolean isCell(int l, int i, int j) {
        return 0 <= l && l < layers && 0 <= i && i < x && 0 <= j && j < y;
    }

    int number(int l, int i, int j) {
        if (!isCell(l, i, j)) {
            throw new IndexOutOfBoundsException();
        }
        return (l * y + j) * x + i;
    }

    PlainNet get(int net) {
        if (net < 0 || net >= nets.size()) {
            throw new IndexOutOfBoundsException();
        }
        return nets.get(net);
    }

    int layer(int cell) {
        return cell / x / y;
    }

    int j(int cell) {
        return cell / x % y;
    }

    int i(int cell) {
        return cell % x;
    }

    boolean heldByOthers(int cell, PlainNet but) {
        for (PlainNet net : nets) {
            if (net != but && net.holds(cell)) {
                return true;
            }
        }
        return false;
    }

    boolean otherPin(int cell, PlainNet but) {
        for (PlainNet net : nets) {
            if (net != but && net.pins.contains(cell)) {
                return true;
            }
        }
        return false;
    }

    TreeSet<Integer> neighbours(int cell, boolean onLayer) {
        TreeSet<Integer> found = new TreeSet<>();
        for (int other = 0; other < cells; other++) {
            int dl = Math.abs(layer(cell) - layer(other));
            int di = Math.abs(i(cell) - i(other));
            int dj = Math.abs(j(cell) - j(other));
            if (dl + di + dj == 1 && (dl == 0 || !onLayer)) {
                found.add(other);
            }
        }
        return found;
    }

    long step(int from, int to, PlainNet net, boolean ripping) {
        long sum = 2;
        if (layer(from) != layer(to)) {
            sum += costs[Math.min(layer(from), layer(to))][1];
        } else if ((j(from) != j(to)) == (layer(from) == 0 || layer(from) == 2)) {
            sum += costs[layer(from)][0];
        }
        for (int beside : neighbours(to, true)) {
            if (heldByOthers(beside, net)) {
                sum += costs[layer(to)][2];
            }
        }
        sum += history[to];
        return ripping && heldByOthers(to, net) ? sum + 100 : sum;
    }

    private boolean enters(int cell, PlainNet net, boolean ripping) {
        if (barred.contains(cell)) {
            return false;
        }
        return ripping ? !otherPin(cell, net) : !heldByOthers(cell, net);
    }

    /** Sweeps over all steps until none makes a distance less. */
    private long[] distances(PlainNet net, List<Integer> tree, boolean ripping) {
        long[] d = new long[cells];
        Arrays.fill(d, -1);
        for (int cell : tree) {
            d[cell] = 0;
        }
        List<long[]> steps = new ArrayList<>();
        for (int to = 0; to < cells; to++) {
            for (int from : neighbours(to, false)) {
                if (enters(to, net, ripping)) {
                    steps.add(new long[] {from, to, step(from, to, net, ripping)});
                }
            }
        }
        boolean changed = true;
        while (changed) {
            changed = false;
            for (long[] one : steps) {
                long from = d[(int) one[0]];
                long to = d[(int) one[1]];
                if (from >= 0 && (to < 0 || from + one[2] < to)) {
                    d[(int) one[1]] = from + one[2];
                    changed = true;
                }
            }
        }
        return d;
    }

    private int nearest(PlainNet net, List<Integer> tree, long[] d) {
        int best = -1;
        for (int pin : net.pins) {
            if (!tree.contains(pin) && d[pin] >= 0 && (best < 0 || d[pin] < d[best])) {
                best = pin;
            }
        }
        return best;
    }

    private void lead(PlainNet net) {
        List<Integer> tree = new ArrayList<>();
        tree.add(net.pins.get(0));
        long cost = 0;
        while (!tree.containsAll(net.pins)) {
            boolean ripping = false;
            long[] d = distances(net, tree, false);
            int pin = nearest(net, tree, d);
            if (pin < 0) {
                long[] free = d;
                ripping = true;
                d = distances(net, tree, true);
                pin = nearest(net, tree, d);
                if (pin < 0) {
                    net.blockedBy = around(net, free);
                    return;
                }
            }
            List<Integer> path = back(net, tree, d, pin, ripping);
            cost += d[pin];
            for (PlainNet other : nets) {
                boolean hit = false;
                for (int cell : path) {
                    if (other != net && other.holds(cell)) {
                        hit = true;
                        history[cell]++;
                    }
                }
                if (hit) {
                    other.tree = null;
                    other.ripped++;
                }
            }
            tree.addAll(path);
        }
        net.tree = tree;
        net.cost = cost;
        net.blockedBy = new TreeSet<>();
    }

    private List<Integer> back(PlainNet net, List<Integer> tree, long[] d, int pin, boolean ripping) {
        List<Integer> path = new ArrayList<>();
        int cell = pin;
        while (!tree.contains(cell)) {
            path.add(cell);
            for (int before : neighbours(cell, false)) {
                if (d[before] >= 0 && d[before] + step(before, cell, net, ripping) == d[cell]) {
                    cell = before;
                    break;
                }
            }
        }
        return path;
    }

    private TreeSet<Integer> around(PlainNet net, long[] d) {
        TreeSet<Integer> found = new TreeSet<>();
        for (int cell = 0; cell < cells; cell++) {
            if (d[cell] >= 0) {
                for (int beside : neighbours(cell, false)) {
                    for (int n = 0; n < nets.size(); n++) {
                        if (nets.get(n) != net && nets.get(n).holds(beside)) {
                            found.add(n);
                        }
                    }
                }
            }
        }
        return found;
    }

    List<Integer> openOnes() {
        List<Integer> found = new ArrayList<>();
        for (int n = 0; n < nets.size(); n++) {
            if (nets.get(n).isOpen()) {
                found.add(n);
            }
        }
        return found;
    }

    private void playRound() {
        List<Integer> order = openOnes();
        for (int k = order.size() - 1; k >= 1; k--) {
            s = s * 6364136223846793005L + 1442695040888963407L;
            int other = (int) ((s >>> 33) % (k + 1));
            int kept = order.get(k);
            order.set(k, order.get(other));
            order.set(other, kept);
        }
        for (int n : order) {
            if (nets.get(n).isOpen()) {
                lead(nets.get(n));
            }
        }
        rounds++;
    }

    boolean bar(int l, int i, int j) {
        int cell = number(l, i, j);
        return !heldByOthers(cell, null) && barred.add(cell);
    }

    int net() {
        if (nets.size() == 12) {
            return -1;
        }
        nets.add(new PlainNet());
        return nets.size() - 1;
    }

    boolean pin(int net, int l, int i, int j) {
        PlainNet it = get(net);
        int cell = number(l, i, j);
        if (barred.contains(cell) || it.pins.contains(cell) || heldByOthers(cell, it) || it.pins.size() == 5) {
            return false;
        }
        it.pins.add(cell);
        it.tree = null;
        return true;
    }

    boolean cost(int l, int across, int via, int near) {
        if (l < 0 || l >= layers) {
            throw new IndexOutOfBoundsException();
        }
        int[] wanted = {across, via, near};
        for (int one : wanted) {
            if (one < 0 || one > 50) {
                throw new IllegalArgumentException();
            }
        }
        boolean changed = !Arrays.equals(costs[l], wanted);
        costs[l] = wanted;
        return changed;
    }

    int run(int count) {
        if (count < 1 || count > 20) {
            throw new IllegalArgumentException();
        }
        for (int r = 0; r < count; r++) {
            if (!openOnes().isEmpty()) {
                playRound();
            }
        }
        return openOnes().size();
    }

    int piece(int net, int k, int what) {
        PlainNet it = get(net);
        if (it.tree == null || k < 0 || k >= it.tree.size() || what < 0 || what > 2) {
            throw new IndexOutOfBoundsException();
        }
        int cell = it.tree.get(k);
        return what == 0 ? layer(cell) : what == 1 ? i(cell) : j(cell);
    }

    long costOf(int net) {
        return get(net).tree == null ? -1 : get(net).cost;
    }

    private static int kth(Iterable<Integer> rising, int k) {
        int at = 0;
        for (int one : rising) {
            if (at == k) {
                return one;
            }
            at++;
        }
        return -1;
    }

    int open(int k) {
        return kth(openOnes(), k);
    }

    int blocking(int net, int k) {
        return kth(get(net).blockedBy, k);
    }

    int corridor(int net, int k) {
        PlainNet it = get(net);
        TreeSet<Integer> blocks = new TreeSet<>();
        for (int cell = 0; cell < cells; cell++) {
            if (it.holds(cell)) {
                blocks.add(j(cell) / 4 * ((x + 3) / 4) + i(cell) / 4);
            }
        }
        return kth(blocks, k);
    }

    boolean band(int net) {
        PlainNet it = get(net);
        if (it.tree == null) {
            return false;
        }
        for (int cell : it.tree) {
            for (int a : neighbours(cell, true)) {
                for (int b : neighbours(cell, true)) {
                    boolean bend = j(a) == j(cell) && i(b) == i(cell) && it.holds(a) && it.holds(b);
                    int corner = bend ? number(layer(cell), i(a), j(b)) : cell;
                    if (bend && (barred.contains(corner) || heldByOthers(corner, it))) {
                        return false;
                    }
                }
            }
        }
        return true;
    }
}

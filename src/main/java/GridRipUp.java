import java.util.Arrays;

/**
 * Leads nets over a grid of layers by ways of least cost. Nets are led in seeded orders; what is in
 * the way is ripped up and led again, round by round; what stays open tells what blocks it.
 */
public final class GridRipUp {
    public static final int NONE = -1;

    private static final int MOST_SIDE = 16;
    private static final int MOST_LAYERS = 4;
    private static final int MOST_NETS = 12;
    private static final int MOST_PINS = 5;
    private static final int MOST_ROUNDS = 20;
    private static final int MOST_COST = 50;
    private static final int BLOCK_SIDE = 4;
    // Sets of nets (12 at most) and of blocks (16 at most) are the bits of an int.
    private static final int SET_SIZE = 16;
    private static final int PLAIN_STEP = 2;
    private static final int RIPPING_COST = 100;
    private static final long DRAW_FACTOR = 6364136223846793005L;
    private static final long DRAW_TERM = 1442695040888963407L;

    // In this order the numbers of a cell's neighbours rise, so the first that fits is the lowest.
    private static final int LAYER_BELOW = 0;
    private static final int J_BELOW = 1;
    private static final int I_BELOW = 2;
    private static final int I_ABOVE = 3;
    private static final int J_ABOVE = 4;
    private static final int LAYER_ABOVE = 5;
    private static final int DIRECTIONS = 6;

    private final Grid grid;
    private final Board board;
    private final Net[] nets;
    private final Leader leader;
    private final int[] order;
    private int netCount;
    private int roundCount;
    private long drawState;

    public GridRipUp(int x, int y, int layers, long seed) {
        grid = new Grid(x, y, layers);
        board = new Board(grid);
        nets = new Net[MOST_NETS];
        for (int n = 0; n < MOST_NETS; n++) {
            nets[n] = new Net(n);
        }
        leader = new Leader(board, nets);
        order = new int[MOST_NETS];
        drawState = seed;
    }

    public boolean bar(int layer, int i, int j) throws IndexOutOfBoundsException {
        int cell = cellAt(layer, i, j);
        if (board.barred[cell] || board.holder[cell] != NONE) {
            return false;
        }
        board.barred[cell] = true;
        return true;
    }

    public int net() {
        if (netCount >= MOST_NETS) {
            return NONE;
        }
        netCount++;
        return netCount - 1;
    }

    public boolean pin(int net, int layer, int i, int j) throws IndexOutOfBoundsException {
        Net owner = netAt(net);
        int cell = cellAt(layer, i, j);
        if (board.barred[cell] || board.pinned[cell] || board.isHeldByAnother(cell, net)
                || owner.pinCount >= MOST_PINS) {
            return false;
        }
        leader.takeUp(owner);
        owner.pins[owner.pinCount] = cell;
        owner.pinCount++;
        board.holder[cell] = net;
        board.pinned[cell] = true;
        return true;
    }

    public boolean cost(int layer, int across, int via, int near)
            throws IndexOutOfBoundsException, IllegalArgumentException {
        if (layer < 0 || layer >= grid.layers) {
            throw new IndexOutOfBoundsException("there is no such layer");
        }
        if (!isCost(across) || !isCost(via) || !isCost(near)) {
            throw new IllegalArgumentException("a cost is not 0 .. 50");
        }
        boolean changed = board.across[layer] != across || board.via[layer] != via
                || board.near[layer] != near;
        board.across[layer] = across;
        board.via[layer] = via;
        board.near[layer] = near;
        return changed;
    }

    public int run(int rounds) throws IllegalArgumentException {
        if (rounds < 1 || rounds > MOST_ROUNDS) {
            throw new IllegalArgumentException("rounds are not 1 .. 20");
        }
        for (int r = 0; r < rounds && openNets() != 0; r++) {
            playRound();
        }
        return Integer.bitCount(openNets());
    }

    public int piece(int net, int k, int what) throws IndexOutOfBoundsException {
        Net asked = netAt(net);
        int cell = asked.led ? board.treeCell(net, k) : NONE;
        if (cell == NONE || what < 0 || what > 2) {
            throw new IndexOutOfBoundsException("there is no such piece");
        }
        if (what == 0) {
            return grid.layerOf(cell);
        }
        return what == 1 ? grid.iOf(cell) : grid.jOf(cell);
    }

    public long costOf(int net) throws IndexOutOfBoundsException {
        Net asked = netAt(net);
        return asked.led ? asked.wayCost : NONE;
    }

    public int ripped(int net) throws IndexOutOfBoundsException {
        return netAt(net).timesRipped;
    }

    public long history(int layer, int i, int j) throws IndexOutOfBoundsException {
        return board.history[cellAt(layer, i, j)];
    }

    public int open(int k) {
        return numberInSet(openNets(), k);
    }

    public int blocking(int net, int k) throws IndexOutOfBoundsException {
        return numberInSet(netAt(net).blockers, k);
    }

    public boolean joined(int net) throws IndexOutOfBoundsException {
        return netAt(net).led;
    }

    public int corridor(int net, int k) throws IndexOutOfBoundsException {
        return numberInSet(board.blocksOf(netAt(net).number), k);
    }

    public int round() {
        return roundCount;
    }

    public boolean band(int net) throws IndexOutOfBoundsException {
        Net asked = netAt(net);
        return asked.led && board.hasFreeBends(net);
    }

    private int cellAt(int layer, int i, int j) {
        int cell = grid.number(layer, i, j);
        if (cell == NONE) {
            throw new IndexOutOfBoundsException("there is no such cell");
        }
        return cell;
    }

    private Net netAt(int net) {
        if (net < 0 || net >= netCount) {
            throw new IndexOutOfBoundsException("there is no such net");
        }
        return nets[net];
    }

    private static boolean isCost(int value) {
        return value >= 0 && value <= MOST_COST;
    }

    private int openNets() {
        int set = 0;
        for (int n = 0; n < netCount; n++) {
            if (nets[n].pinCount > 0 && !nets[n].led) {
                set |= 1 << n;
            }
        }
        return set;
    }

    /** The k-th number, rising, of a set; NONE when it has not so many. */
    private static int numberInSet(int set, int k) {
        int left = k;
        for (int number = 0; number < SET_SIZE && left >= 0; number++) {
            if ((set >>> number & 1) != 0) {
                if (left == 0) {
                    return number;
                }
                left--;
            }
        }
        return NONE;
    }

    private void playRound() {
        int count = orderOpenNets();
        for (int k = count - 1; k >= 1; k--) {
            int other = (int) (draw() % (k + 1));
            int moved = order[k];
            order[k] = order[other];
            order[other] = moved;
        }
        for (int k = 0; k < count; k++) {
            Net next = nets[order[k]];
            if (!next.led) {
                leader.lead(next);
            }
        }
        roundCount++;
    }

    private int orderOpenNets() {
        int set = openNets();
        int count = 0;
        for (int n = 0; n < netCount; n++) {
            if ((set >>> n & 1) != 0) {
                order[count] = n;
                count++;
            }
        }
        return count;
    }

    private long draw() {
        drawState = drawState * DRAW_FACTOR + DRAW_TERM;
        return drawState >>> 33;
    }

    /** The cells' numbers and which of them lie beside each other. */
    private static final class Grid {
        final int x;
        final int y;
        final int layers;
        final int cells;
        private final int[] neighbours;

        Grid(int x, int y, int layers) {
            this.x = Math.max(1, Math.min(MOST_SIDE, x));
            this.y = Math.max(1, Math.min(MOST_SIDE, y));
            this.layers = Math.max(1, Math.min(MOST_LAYERS, layers));
            cells = this.x * this.y * this.layers;
            neighbours = new int[cells * DIRECTIONS];
            for (int cell = 0; cell < cells; cell++) {
                findNeighbours(cell);
            }
        }

        private void findNeighbours(int cell) {
            int layer = layerOf(cell);
            int i = iOf(cell);
            int j = jOf(cell);
            int first = cell * DIRECTIONS;
            neighbours[first + LAYER_BELOW] = number(layer - 1, i, j);
            neighbours[first + J_BELOW] = number(layer, i, j - 1);
            neighbours[first + I_BELOW] = number(layer, i - 1, j);
            neighbours[first + I_ABOVE] = number(layer, i + 1, j);
            neighbours[first + J_ABOVE] = number(layer, i, j + 1);
            neighbours[first + LAYER_ABOVE] = number(layer + 1, i, j);
        }

        /** A cell's number; NONE when there is no such cell. */
        int number(int layer, int i, int j) {
            boolean within = layer >= 0 && layer < layers && i >= 0 && i < x && j >= 0 && j < y;
            return within ? (layer * y + j) * x + i : NONE;
        }

        int layerOf(int cell) {
            return cell / (x * y);
        }

        int iOf(int cell) {
            return cell % x;
        }

        int jOf(int cell) {
            return cell / x % y;
        }

        int blockOf(int cell) {
            int blocksInRow = (x + BLOCK_SIDE - 1) / BLOCK_SIDE;
            return jOf(cell) / BLOCK_SIDE * blocksInRow + iOf(cell) / BLOCK_SIDE;
        }

        /** The neighbour in a direction; NONE at the grid's edge. */
        int beside(int cell, int direction) {
            return neighbours[cell * DIRECTIONS + direction];
        }
    }

    private static final class Net {
        final int number;
        final int[] pins = new int[MOST_PINS];
        int pinCount;
        int treeSize;
        boolean led;
        long wayCost;
        int timesRipped;
        int blockers;

        Net(int number) {
            this.number = number;
        }
    }

    /** What lies on the cells, and what it costs to go over them. */
    private static final class Board {
        final Grid grid;
        final boolean[] barred;
        final boolean[] pinned;
        final int[] holder;
        // A cell has one holder at most, so one row tells every net's tree: its order of coming in.
        final int[] treePlace;
        final long[] history;
        final int[] across;
        final int[] via;
        final int[] near;

        Board(Grid grid) {
            this.grid = grid;
            barred = new boolean[grid.cells];
            pinned = new boolean[grid.cells];
            holder = new int[grid.cells];
            treePlace = new int[grid.cells];
            history = new long[grid.cells];
            across = new int[grid.layers];
            via = new int[grid.layers];
            near = new int[grid.layers];
            Arrays.fill(holder, NONE);
            Arrays.fill(treePlace, NONE);
        }

        boolean isHeldByAnother(int cell, int net) {
            return holder[cell] != NONE && holder[cell] != net;
        }

        boolean isInTree(int cell, int net) {
            return holder[cell] == net && treePlace[cell] != NONE;
        }

        boolean isPinOutsideTree(int cell, int net) {
            return holder[cell] == net && pinned[cell] && treePlace[cell] == NONE;
        }

        /** The k-th cell of a net's tree; NONE when there is none. */
        int treeCell(int net, int k) {
            if (k < 0) {
                return NONE;
            }
            for (int cell = 0; cell < grid.cells; cell++) {
                if (holder[cell] == net && treePlace[cell] == k) {
                    return cell;
                }
            }
            return NONE;
        }

        void addToTree(Net net, int cell) {
            holder[cell] = net.number;
            treePlace[cell] = net.treeSize;
            net.treeSize++;
        }

        void keepPinsAlone(Net net) {
            for (int cell = 0; cell < grid.cells; cell++) {
                if (holder[cell] == net.number) {
                    treePlace[cell] = NONE;
                    holder[cell] = pinned[cell] ? net.number : NONE;
                }
            }
            net.treeSize = 0;
        }

        /** What a step costs whatever cell it comes to: the same there and back. */
        int wayOf(int cell, int direction) {
            int layer = grid.layerOf(cell);
            if (direction == LAYER_BELOW || direction == LAYER_ABOVE) {
                int lower = direction == LAYER_BELOW ? Math.max(0, layer - 1) : layer;
                return PLAIN_STEP + via[lower];
            }
            boolean alongJ = direction == J_BELOW || direction == J_ABOVE;
            boolean dearAlongJ = layer % 2 == 0;
            return alongJ == dearAlongJ ? PLAIN_STEP + across[layer] : PLAIN_STEP;
        }

        /** What a step costs for the cell that it comes to; NONE when the net may not go there. */
        long comingTo(int cell, int net, boolean ripping) {
            boolean held = isHeldByAnother(cell, net);
            if (barred[cell] || held && (!ripping || pinned[cell])) {
                return NONE;
            }
            long nearness = (long) near[grid.layerOf(cell)] * othersBeside(cell, net);
            return nearness + history[cell] + (held ? RIPPING_COST : 0);
        }

        private int othersBeside(int cell, int net) {
            int count = 0;
            for (int direction = J_BELOW; direction <= J_ABOVE; direction++) {
                int next = grid.beside(cell, direction);
                if (next != NONE && holder[next] != NONE && holder[next] != net) {
                    count++;
                }
            }
            return count;
        }

        /** The set of the other nets that hold a neighbour of a cell. */
        int othersAround(int cell, int net) {
            int set = 0;
            for (int direction = 0; direction < DIRECTIONS; direction++) {
                int next = grid.beside(cell, direction);
                if (next != NONE && isHeldByAnother(next, net)) {
                    set |= 1 << holder[next];
                }
            }
            return set;
        }

        int blocksOf(int net) {
            int set = 0;
            for (int cell = 0; cell < grid.cells; cell++) {
                if (holder[cell] == net) {
                    set |= 1 << grid.blockOf(cell);
                }
            }
            return set;
        }

        boolean hasFreeBends(int net) {
            for (int cell = 0; cell < grid.cells; cell++) {
                if (holder[cell] == net && !areBendsFreeAt(cell, net)) {
                    return false;
                }
            }
            return true;
        }

        private boolean areBendsFreeAt(int cell, int net) {
            for (int alongI = I_BELOW; alongI <= I_ABOVE; alongI++) {
                if (isBendTaken(cell, net, alongI, J_BELOW) || isBendTaken(cell, net, alongI, J_ABOVE)) {
                    return false;
                }
            }
            return true;
        }

        private boolean isBendTaken(int cell, int net, int alongI, int alongJ) {
            int besideI = grid.beside(cell, alongI);
            int besideJ = grid.beside(cell, alongJ);
            if (besideI == NONE || besideJ == NONE || holder[besideI] != net || holder[besideJ] != net) {
                return false;
            }
            int corner = grid.beside(besideI, alongJ);
            return corner != NONE && (barred[corner] || isHeldByAnother(corner, net));
        }
    }

    /** The distances of cells from a net's tree; its rows are used again by each search. */
    private static final class Search {
        private final Grid grid;
        private final Board board;
        private final long[] distance;
        private final long[] coming;
        private final int[] heap;
        private final int[] heapPlace;
        private int heapSize;
        final int[] path;
        int pathLength;

        Search(Board board) {
            this.board = board;
            grid = board.grid;
            distance = new long[grid.cells];
            coming = new long[grid.cells];
            heap = new int[grid.cells];
            heapPlace = new int[grid.cells];
            path = new int[grid.cells];
        }

        /** Makes the rows ready: what coming to each cell costs, and the tree at distance 0. */
        void begin(int net, boolean ripping) {
            heapSize = 0;
            for (int cell = 0; cell < grid.cells; cell++) {
                coming[cell] = board.comingTo(cell, net, ripping);
                distance[cell] = NONE;
                if (board.isInTree(cell, net)) {
                    // Cells at distance 0 are in the heap's order wherever they stand.
                    distance[cell] = 0;
                    append(cell);
                }
            }
        }

        /** Finds the distances, at least as far as the nearest pin outside the tree. */
        void spread(int net) {
            for (int taken = 0; taken < grid.cells && heapSize > 0; taken++) {
                int cell = takeNearest();
                if (board.isPinOutsideTree(cell, net)) {
                    // Each step costs something, so all that is as near or nearer is known by now.
                    return;
                }
                for (int direction = 0; direction < DIRECTIONS; direction++) {
                    int next = grid.beside(cell, direction);
                    if (next != NONE && coming[next] != NONE) {
                        offer(next, distance[cell] + board.wayOf(cell, direction) + coming[next]);
                    }
                }
            }
        }

        /** The pin outside the tree that is nearest to it; NONE when the search came to none. */
        int nearestPin(Net net) {
            int nearest = NONE;
            for (int p = 0; p < net.pinCount; p++) {
                int pin = net.pins[p];
                boolean reached = board.isPinOutsideTree(pin, net.number) && distance[pin] != NONE;
                if (reached && (nearest == NONE || distance[pin] < distance[nearest])) {
                    nearest = pin;
                }
            }
            return nearest;
        }

        long distanceOf(int cell) {
            return distance[cell];
        }

        /** The set of the other nets that hold a neighbour of a cell that the last search came to. */
        int othersMet(int net) {
            int set = 0;
            for (int cell = 0; cell < grid.cells; cell++) {
                if (distance[cell] != NONE) {
                    set |= board.othersAround(cell, net);
                }
            }
            return set;
        }

        /** Puts the cells from a pin back to the tree, but for the tree's own, into the path. */
        void walkBack(int pin) {
            pathLength = 0;
            int cell = pin;
            while (pathLength < grid.cells && cell != NONE && distance[cell] > 0) {
                path[pathLength] = cell;
                pathLength++;
                cell = cellBefore(cell);
            }
        }

        private int cellBefore(int cell) {
            for (int direction = 0; direction < DIRECTIONS; direction++) {
                int before = grid.beside(cell, direction);
                if (before != NONE && distance[before] != NONE
                        && distance[before] + board.wayOf(cell, direction) + coming[cell] == distance[cell]) {
                    return before;
                }
            }
            return NONE;
        }

        private void offer(int cell, long offered) {
            if (distance[cell] != NONE && distance[cell] <= offered) {
                return;
            }
            if (distance[cell] == NONE) {
                append(cell);
            }
            distance[cell] = offered;
            rise(cell);
        }

        private void append(int cell) {
            heap[heapSize] = cell;
            heapPlace[cell] = heapSize;
            heapSize++;
        }

        private void rise(int cell) {
            int at = heapPlace[cell];
            while (at > 0) {
                int parent = (at - 1) / 2;
                if (distance[heap[parent]] <= distance[cell]) {
                    break;
                }
                heap[at] = heap[parent];
                heapPlace[heap[at]] = at;
                at = parent;
            }
            heap[at] = cell;
            heapPlace[cell] = at;
        }

        private int takeNearest() {
            int nearest = heap[0];
            heapSize--;
            int sinking = heap[heapSize];
            int at = 0;
            int child = 1;
            while (child < heapSize) {
                if (child + 1 < heapSize && distance[heap[child + 1]] < distance[heap[child]]) {
                    child++;
                }
                if (distance[sinking] <= distance[heap[child]]) {
                    break;
                }
                heap[at] = heap[child];
                heapPlace[heap[at]] = at;
                at = child;
                child = 2 * at + 1;
            }
            heap[at] = sinking;
            heapPlace[sinking] = at;
            return nearest;
        }
    }

    /** Leads nets, and rips up those that are in the way. */
    private static final class Leader {
        private final Board board;
        private final Net[] nets;
        private final Search search;

        Leader(Board board, Net[] nets) {
            this.board = board;
            this.nets = nets;
            search = new Search(board);
        }

        void lead(Net net) {
            net.wayCost = 0;
            board.addToTree(net, net.pins[0]);
            for (int inTree = 1; inTree < net.pinCount; inTree++) {
                if (!joinNextPin(net)) {
                    takeUp(net);
                    return;
                }
            }
            net.led = true;
            net.blockers = 0;
        }

        /** A net holds its pins alone from now on. */
        void takeUp(Net net) {
            net.led = false;
            board.keepPinsAlone(net);
        }

        private boolean joinNextPin(Net net) {
            search.begin(net.number, false);
            search.spread(net.number);
            int pin = search.nearestPin(net);
            if (pin == NONE) {
                int met = search.othersMet(net.number);
                search.begin(net.number, true);
                search.spread(net.number);
                pin = search.nearestPin(net);
                if (pin == NONE) {
                    net.blockers = met;
                    return false;
                }
            }
            search.walkBack(pin);
            net.wayCost += search.distanceOf(pin);
            ripAlongPath(net);
            for (int p = 0; p < search.pathLength; p++) {
                board.addToTree(net, search.path[p]);
            }
            return true;
        }

        private void ripAlongPath(Net net) {
            int set = 0;
            for (int p = 0; p < search.pathLength; p++) {
                int cell = search.path[p];
                if (board.isHeldByAnother(cell, net.number)) {
                    set |= 1 << board.holder[cell];
                    board.history[cell]++;
                }
            }
            for (int n = 0; n < nets.length; n++) {
                if ((set >>> n & 1) != 0) {
                    nets[n].timesRipped++;
                    takeUp(nets[n]);
                }
            }
        }
    }
}

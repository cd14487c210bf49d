import java.util.Arrays;

/**
 * Global routes of nets on a grid of cells whose borders have room for so many: nets are led one by
 * one on least ways by costs that grow with what is too full, in rounds, till nothing is too full.
 */
public final class GlobalRoutes {
    public static final int NONE = -1;

    private static final int LEAST_SIDE = 2;
    private static final int MOST_SIDE = 8;
    private static final int MOST_CAPACITY = 20;
    private static final int MOST_NETS = 12;
    private static final int MOST_PINS = 5;
    private static final int MOST_ROUNDS = 10;
    private static final int OVER_COST = 4;
    /** Above every distance, and far enough from overflow to have a cost added. */
    private static final int FAR = 1_000_000_000;

    private final Grid grid;
    private final Leader leader;
    private final LeastTable leastTable;
    private final Net[] nets;
    private int netCount;
    private int roundCount;

    public GlobalRoutes(int width, int height, int capacity) {
        grid = new Grid(nearest(width, LEAST_SIDE, MOST_SIDE),
                nearest(height, LEAST_SIDE, MOST_SIDE),
                nearest(capacity, 0, MOST_CAPACITY));
        leader = new Leader(grid);
        leastTable = new LeastTable(grid);
        // All nets stand from the start, so that no later call takes more room.
        nets = new Net[MOST_NETS];
        for (int i = 0; i < MOST_NETS; i++) {
            nets[i] = new Net(grid.borders);
        }
        netCount = 0;
        roundCount = 0;
    }

    public int capacity(int x, int y, boolean down, int c)
            throws IndexOutOfBoundsException, IllegalArgumentException {
        int border = checkedBorder(x, y, down);
        if (c < 0 || c > MOST_CAPACITY) {
            throw new IllegalArgumentException("a capacity is 0 .. 20");
        }
        int before = grid.capacities[border];
        grid.capacities[border] = c;
        return before;
    }

    public int net() throws IllegalStateException {
        if (netCount >= MOST_NETS) {
            throw new IllegalStateException("there are at most 12 nets");
        }
        netCount++;
        return netCount - 1;
    }

    public int pin(int net, int x, int y)
            throws IndexOutOfBoundsException, IllegalArgumentException, IllegalStateException {
        Net pinned = checkedNet(net);
        if (!grid.hasCell(x, y)) {
            throw new IllegalArgumentException("there is no such cell");
        }
        int cell = grid.cellAt(x, y);
        if (pinned.hasPin(cell)) {
            throw new IllegalArgumentException("the cell is a pin already");
        }
        if (pinned.pinCount >= MOST_PINS) {
            throw new IllegalStateException("a net has at most 5 pins");
        }
        dropRoute(pinned);
        pinned.addPin(cell);
        return pinned.pinCount;
    }

    public long lead(int net) throws IndexOutOfBoundsException, IllegalStateException {
        Net led = checkedNet(net);
        if (!led.isRoutable()) {
            throw new IllegalStateException("the net has fewer pins than two");
        }
        return leadAnew(led);
    }

    public int rip(int net) throws IndexOutOfBoundsException {
        return dropRoute(checkedNet(net));
    }

    public int run(int rounds) throws IllegalArgumentException {
        if (rounds < 0 || rounds > MOST_ROUNDS) {
            throw new IllegalArgumentException("rounds are 0 .. 10");
        }
        int played = 0;
        while (played < rounds && !isDone()) {
            playRound();
            played++;
        }
        return played;
    }

    public long forget() {
        long sum = 0;
        for (int border = 0; border < grid.borders; border++) {
            sum += grid.histories[border];
            grid.histories[border] = 0;
        }
        return sum;
    }

    public int length(int net) throws IndexOutOfBoundsException {
        return checkedNet(net).routeLength;
    }

    public int least(int net) throws IndexOutOfBoundsException {
        return leastTable.leastOf(checkedNet(net));
    }

    public boolean has(int net, int x, int y, boolean down) throws IndexOutOfBoundsException {
        Net asked = checkedNet(net);
        int border = checkedBorder(x, y, down);
        return asked.route[border];
    }

    public int border(int x, int y, boolean down, int what)
            throws IndexOutOfBoundsException, IllegalArgumentException {
        int border = checkedBorder(x, y, down);
        switch (what) {
            case 0:
                return grid.uses[border];
            case 1:
                return grid.capacities[border];
            case 2:
                return grid.histories[border];
            case 3:
                return grid.excess(border);
            default:
                throw new IllegalArgumentException("of a border 0 .. 3 is told");
        }
    }

    public int line(boolean rows, int k, int what)
            throws IndexOutOfBoundsException, IllegalArgumentException {
        if (k < 0 || k >= (rows ? grid.height : grid.width) - 1) {
            throw new IndexOutOfBoundsException("there is no such line");
        }
        switch (what) {
            case 0:
                return netsAcross(rows, k);
            case 1:
                return grid.sumOnLine(grid.capacities, rows, k);
            case 2:
                return grid.sumOnLine(grid.uses, rows, k);
            default:
                throw new IllegalArgumentException("of a line 0 .. 2 is told");
        }
    }

    public int told(int what) throws IllegalArgumentException {
        switch (what) {
            case 0:
                return netCount;
            case 1:
                return routedNets();
            case 2:
                return bordersOfRoutes();
            case 3:
                return grid.bordersOver();
            case 4:
                return grid.excessOfAll();
            case 5:
                return grid.width;
            case 6:
                return grid.height;
            case 7:
                return roundCount;
            default:
                throw new IllegalArgumentException("0 .. 7 is told");
        }
    }

    private static int nearest(int number, int from, int to) {
        return Math.max(from, Math.min(to, number));
    }

    private Net checkedNet(int number) {
        if (number < 0 || number >= netCount) {
            throw new IndexOutOfBoundsException("there is no such net");
        }
        return nets[number];
    }

    private int checkedBorder(int x, int y, boolean down) {
        if (!grid.hasBorder(x, y, down)) {
            throw new IndexOutOfBoundsException("there is no such border");
        }
        return grid.borderAt(x, y, down);
    }

    private int dropRoute(Net net) {
        int before = net.routeLength;
        if (before != NONE) {
            grid.addUses(net.route, -1);
            net.clearRoute();
        }
        return before;
    }

    private long leadAnew(Net net) {
        // The net's own use must not make its old way dear.
        dropRoute(net);
        long cost = leader.findRoute(net);
        grid.addUses(net.route, 1);
        return cost;
    }

    private boolean isDone() {
        for (int i = 0; i < netCount; i++) {
            if (nets[i].isRoutable() && !nets[i].isRouted()) {
                return false;
            }
        }
        return grid.bordersOver() == 0;
    }

    private void playRound() {
        for (int i = 0; i < netCount; i++) {
            Net net = nets[i];
            if (net.isRoutable() && (!net.isRouted() || grid.isAnyOver(net.route))) {
                leadAnew(net);
            }
        }
        grid.rememberOver();
        roundCount++;
    }

    private int routedNets() {
        int count = 0;
        for (int i = 0; i < netCount; i++) {
            if (nets[i].isRouted()) {
                count++;
            }
        }
        return count;
    }

    private int bordersOfRoutes() {
        int sum = 0;
        for (int i = 0; i < netCount; i++) {
            if (nets[i].isRouted()) {
                sum += nets[i].routeLength;
            }
        }
        return sum;
    }

    private int netsAcross(boolean rows, int k) {
        int count = 0;
        for (int i = 0; i < netCount; i++) {
            if (isAcross(nets[i], rows, k)) {
                count++;
            }
        }
        return count;
    }

    private boolean isAcross(Net net, boolean rows, int k) {
        boolean before = false;
        boolean behind = false;
        for (int i = 0; i < net.pinCount; i++) {
            int place = rows ? grid.rowOf(net.pins[i]) : grid.columnOf(net.pins[i]);
            if (place <= k) {
                before = true;
            } else {
                behind = true;
            }
        }
        return before && behind;
    }

    /**
     * Cells and borders. Border 2 c is to the right of cell c, border 2 c + 1 down from it; numbers
     * of borders that would lead out of the grid stay unused, so they are never over.
     */
    private static final class Grid {
        /** Up, left, right, down: so a cell's neighbours come by rising numbers. */
        static final int DIRECTIONS = 4;

        final int width;
        final int height;
        final int cells;
        final int borders;
        final int[] capacities;
        final int[] uses;
        final int[] histories;
        /** At 4 c + direction: the neighbour of cell c there, or NONE. */
        final int[] neighbours;
        /** At 4 c + direction: the border to that neighbour, or NONE. */
        final int[] bordersTo;

        Grid(int width, int height, int capacity) {
            this.width = width;
            this.height = height;
            cells = width * height;
            borders = 2 * cells;
            capacities = new int[borders];
            uses = new int[borders];
            histories = new int[borders];
            neighbours = new int[DIRECTIONS * cells];
            bordersTo = new int[DIRECTIONS * cells];
            Arrays.fill(capacities, capacity);
            Arrays.fill(neighbours, NONE);
            Arrays.fill(bordersTo, NONE);
            for (int cell = 0; cell < cells; cell++) {
                if (cell % width < width - 1) {
                    connect(cell, cell + 1, 2 * cell, 2);
                }
                if (cell / width < height - 1) {
                    connect(cell, cell + width, 2 * cell + 1, 3);
                }
            }
        }

        /** The opposite of direction d is 3 - d. */
        private void connect(int from, int to, int number, int direction) {
            int back = DIRECTIONS - 1 - direction;
            neighbours[DIRECTIONS * from + direction] = to;
            bordersTo[DIRECTIONS * from + direction] = number;
            neighbours[DIRECTIONS * to + back] = from;
            bordersTo[DIRECTIONS * to + back] = number;
        }

        boolean hasCell(int x, int y) {
            return x >= 0 && x < width && y >= 0 && y < height;
        }

        int cellAt(int x, int y) {
            return x + width * y;
        }

        int columnOf(int cell) {
            return cell % width;
        }

        int rowOf(int cell) {
            return cell / width;
        }

        boolean hasBorder(int x, int y, boolean down) {
            return hasCell(x, y) && (down ? y < height - 1 : x < width - 1);
        }

        int borderAt(int x, int y, boolean down) {
            return 2 * cellAt(x, y) + (down ? 1 : 0);
        }

        int excess(int number) {
            return Math.max(0, uses[number] - capacities[number]);
        }

        int costOfOneMore(int number) {
            int above = Math.max(0, uses[number] + 1 - capacities[number]);
            return 1 + histories[number] + OVER_COST * above;
        }

        int bordersOver() {
            int count = 0;
            for (int i = 0; i < borders; i++) {
                if (excess(i) > 0) {
                    count++;
                }
            }
            return count;
        }

        int excessOfAll() {
            int sum = 0;
            for (int i = 0; i < borders; i++) {
                sum += excess(i);
            }
            return sum;
        }

        boolean isAnyOver(boolean[] route) {
            for (int i = 0; i < borders; i++) {
                if (route[i] && excess(i) > 0) {
                    return true;
                }
            }
            return false;
        }

        void addUses(boolean[] route, int change) {
            for (int i = 0; i < borders; i++) {
                if (route[i]) {
                    uses[i] += change;
                }
            }
        }

        void rememberOver() {
            for (int i = 0; i < borders; i++) {
                if (excess(i) > 0) {
                    histories[i]++;
                }
            }
        }

        int sumOnLine(int[] numbers, boolean rows, int k) {
            int sum = 0;
            int count = rows ? width : height;
            for (int i = 0; i < count; i++) {
                sum += numbers[rows ? borderAt(i, k, true) : borderAt(k, i, false)];
            }
            return sum;
        }
    }

    /** A net's pins, as cells, and its route, as marks on borders. */
    private static final class Net {
        final int[] pins;
        final boolean[] route;
        int pinCount;
        /** NONE as long as there is no route. */
        int routeLength;

        Net(int borders) {
            pins = new int[MOST_PINS];
            route = new boolean[borders];
            pinCount = 0;
            routeLength = NONE;
        }

        boolean isRoutable() {
            return pinCount >= 2;
        }

        boolean isRouted() {
            return routeLength != NONE;
        }

        boolean hasPin(int cell) {
            for (int i = 0; i < pinCount; i++) {
                if (pins[i] == cell) {
                    return true;
                }
            }
            return false;
        }

        void addPin(int cell) {
            if (pinCount < MOST_PINS) {
                pins[pinCount] = cell;
                pinCount++;
            }
        }

        void clearRoute() {
            for (int i = 0; i < route.length; i++) {
                route[i] = false;
            }
            routeLength = NONE;
        }
    }

    /** Finds a net's route: a tree that grows from pin 0 to the nearest pin, time and again. */
    private static final class Leader {
        private final Grid grid;
        private final int[] costs;
        private final int[] distances;
        private final boolean[] tree;

        Leader(Grid grid) {
            this.grid = grid;
            costs = new int[grid.borders];
            distances = new int[grid.cells];
            tree = new boolean[grid.cells];
        }

        /** Sets the route of a net that has none, without its uses; answers the sum of its costs. */
        long findRoute(Net net) {
            takeCosts();
            startTree(net.pins[0]);
            for (int joined = 1; joined < net.pinCount; joined++) {
                spreadDistances();
                int cell = nearestPin(net);
                if (cell == NONE) {
                    break;
                }
                joinTree(cell, net.route);
            }
            return measure(net);
        }

        /** Costs stay as they are while one net is led, so each is worked out once. */
        private void takeCosts() {
            for (int i = 0; i < grid.borders; i++) {
                costs[i] = grid.costOfOneMore(i);
            }
        }

        private void startTree(int cell) {
            for (int i = 0; i < grid.cells; i++) {
                tree[i] = false;
                distances[i] = FAR;
            }
            tree[cell] = true;
            distances[cell] = 0;
        }

        /**
         * Distances only fall as the tree grows, so the old ones are a fair start. Sweeps both ways
         * settle most ways at once; each pair settles one border more of every way at the least, and
         * no least way has as many borders as there are cells.
         */
        private void spreadDistances() {
            boolean changed = true;
            for (int pair = 0; changed && pair < grid.cells; pair++) {
                changed = false;
                for (int cell = 0; cell < grid.cells; cell++) {
                    changed = lowerDistance(cell) || changed;
                }
                for (int cell = grid.cells - 1; cell >= 0; cell--) {
                    changed = lowerDistance(cell) || changed;
                }
            }
        }

        private boolean lowerDistance(int cell) {
            int best = distances[cell];
            int first = Grid.DIRECTIONS * cell;
            for (int i = first; i < first + Grid.DIRECTIONS; i++) {
                if (grid.neighbours[i] != NONE) {
                    best = Math.min(best, distanceThrough(i));
                }
            }
            boolean lower = best < distances[cell];
            distances[cell] = best;
            return lower;
        }

        private int distanceThrough(int step) {
            return distances[grid.neighbours[step]] + costs[grid.bordersTo[step]];
        }

        /** The cell of the nearest pin that is not in the tree, or NONE if all are. */
        private int nearestPin(Net net) {
            int nearest = NONE;
            for (int i = 0; i < net.pinCount; i++) {
                int cell = net.pins[i];
                if (!tree[cell] && (nearest == NONE || distances[cell] < distances[nearest])) {
                    nearest = cell;
                }
            }
            return nearest;
        }

        private void joinTree(int start, boolean[] route) {
            int cell = start;
            for (int steps = 0; steps < grid.cells && !tree[cell]; steps++) {
                int step = stepToTree(cell);
                if (step == NONE) {
                    break;
                }
                tree[cell] = true;
                route[grid.bordersTo[step]] = true;
                cell = grid.neighbours[step];
            }
            // Only now: on the way the old distances tell where it goes on.
            for (int i = 0; i < grid.cells; i++) {
                if (tree[i]) {
                    distances[i] = 0;
                }
            }
        }

        /** Directions come by rising neighbours' numbers, so the first that fits is due. */
        private int stepToTree(int cell) {
            int first = Grid.DIRECTIONS * cell;
            for (int i = first; i < first + Grid.DIRECTIONS; i++) {
                if (grid.neighbours[i] != NONE && distanceThrough(i) == distances[cell]) {
                    return i;
                }
            }
            return NONE;
        }

        private long measure(Net net) {
            long cost = 0;
            int count = 0;
            for (int i = 0; i < grid.borders; i++) {
                if (net.route[i]) {
                    cost += costs[i];
                    count++;
                }
            }
            net.routeLength = count;
            return cost;
        }
    }

    /**
     * The least length of a net, exactly, by Dreyfus and Wagner: for each set of pins but the last,
     * and each cell, how few borders join the set and the cell. A least tree for both either comes
     * from a neighbour or parts at the cell into trees for two smaller sets.
     */
    private static final class LeastTable {
        private final Grid grid;
        /** A row for each set of the first pins, as bits. */
        private final int[][] rows;

        LeastTable(Grid grid) {
            this.grid = grid;
            rows = new int[1 << (MOST_PINS - 1)][grid.cells];
        }

        int leastOf(Net net) {
            if (!net.isRoutable()) {
                return 0;
            }
            int last = net.pinCount - 1;
            int sets = 1 << last;
            for (int i = 0; i < last; i++) {
                fillFromPin(rows[1 << i], net.pins[i]);
            }
            for (int set = 1; set < sets; set++) {
                if (Integer.bitCount(set) > 1) {
                    fillFromParts(set);
                    spreadRow(rows[set]);
                }
            }
            return rows[sets - 1][net.pins[last]];
        }

        private void fillFromPin(int[] row, int pin) {
            for (int cell = 0; cell < grid.cells; cell++) {
                row[cell] = Math.abs(grid.columnOf(cell) - grid.columnOf(pin))
                        + Math.abs(grid.rowOf(cell) - grid.rowOf(pin));
            }
        }

        /** Parts of a set are smaller numbers than it, so their rows are filled before. */
        private void fillFromParts(int set) {
            int[] row = rows[set];
            Arrays.fill(row, FAR);
            for (int part = 1; part < set; part++) {
                int rest = set - part;
                // Each pair of parts once is enough.
                if ((part & set) == part && part < rest) {
                    takeLower(row, rows[part], rows[rest]);
                }
            }
        }

        private void takeLower(int[] row, int[] part, int[] rest) {
            for (int cell = 0; cell < grid.cells; cell++) {
                row[cell] = Math.min(row[cell], part[cell] + rest[cell]);
            }
        }

        /**
         * One sweep each way is enough where every border counts 1: any two cells have a least way
         * that goes right and down first and left and up behind.
         */
        private void spreadRow(int[] row) {
            for (int cell = 0; cell < grid.cells; cell++) {
                lowerFrom(row, cell, 0);
                lowerFrom(row, cell, 1);
            }
            for (int cell = grid.cells - 1; cell >= 0; cell--) {
                lowerFrom(row, cell, 2);
                lowerFrom(row, cell, 3);
            }
        }

        private void lowerFrom(int[] row, int cell, int direction) {
            int neighbour = grid.neighbours[Grid.DIRECTIONS * cell + direction];
            if (neighbour != NONE) {
                row[cell] = Math.min(row[cell], row[neighbour] + 1);
            }
        }
    }
}

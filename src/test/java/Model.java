import java.util.ArrayList;
import java.util.Arrays;
import java.util.HashMap;
import java.util.List;
import java.util.Map;
import java.util.TreeMap;
import java.util.TreeSet;

/** The document once more, slow and by other means: borders are texts, distances are all pairs. */
final class Model {
    final int width;
    final int height;
    final TreeMap<String, Integer> capacities = new TreeMap<>();
    final TreeMap<String, Integer> histories = new TreeMap<>();
    final List<List<Integer>> pins = new ArrayList<>();
    /** By net; null without a route. */
    final List<TreeSet<String>> routes = new ArrayList<>();
    private final Map<List<Integer>, Integer> leasts = new HashMap<>();
    int rounds = 0;

    Model(int width, int height, int capacity) {
        this.width = clamp(width, 2, 8);
        this.height = clamp(height, 2, 8);
        for (int x = -1; x <= this.width; x++) {
            for (int y = -1; y <= this.height; y++) {
                if (isCell(x, y) && isCell(x + 1, y)) {
                    capacities.put(name(x, y, false), clamp(capacity, 0, 20));
                }
                if (isCell(x, y) && isCell(x, y + 1)) {
                    capacities.put(name(x, y, true), clamp(capacity, 0, 20));
                }
            }
        }
        for (String border : capacities.keySet()) {
            histories.put(border, 0);
        }
    }

    static int clamp(int n, int from, int to) {
        return n < from ? from : n > to ? to : n;
    }

    static String name(int x, int y, boolean down) {
        return x + "," + y + (down ? " down" : " right");
    }

    boolean isCell(int x, int y) {
        return 0 <= x && x < width && 0 <= y && y < height;
    }

    private TreeSet<String> routeOf(int net) {
        index(net >= 0 && net < pins.size());
        return routes.get(net);
    }

    private String borderOf(int x, int y, boolean down) {
        index(capacities.containsKey(name(x, y, down)));
        return name(x, y, down);
    }

    private static void index(boolean good) {
        if (!good) {
            throw new IndexOutOfBoundsException();
        }
    }

    private static void argument(boolean good) {
        if (!good) {
            throw new IllegalArgumentException();
        }
    }

    private static void state(boolean good) {
        if (!good) {
            throw new IllegalStateException();
        }
    }

    private int use(String border) {
        int use = 0;
        for (TreeSet<String> route : routes) {
            use += route != null && route.contains(border) ? 1 : 0;
        }
        return use;
    }

    private int over(String border) {
        return Math.max(0, use(border) - capacities.get(border));
    }

    int capacity(int x, int y, boolean down, int c) {
        String border = borderOf(x, y, down);
        argument(c >= 0 && c <= 20);
        return capacities.put(border, c);
    }

    int net() {
        state(pins.size() < 12);
        pins.add(new ArrayList<>());
        routes.add(null);
        return pins.size() - 1;
    }

    int pin(int net, int x, int y) {
        routeOf(net);
        argument(isCell(x, y));
        argument(!pins.get(net).contains(x + width * y));
        state(pins.get(net).size() < 5);
        pins.get(net).add(x + width * y);
        routes.set(net, null);
        return pins.get(net).size();
    }

    long lead(int net) {
        routeOf(net);
        state(pins.get(net).size() >= 2);
        routes.set(net, null);
        Map<String, Long> costs = new HashMap<>();
        for (String border : capacities.keySet()) {
            long above = Math.max(0, use(border) + 1 - capacities.get(border));
            costs.put(border, 1L + histories.get(border) + 4 * above);
        }
        TreeSet<String> route = grow(pins.get(net), costs);
        routes.set(net, route);
        long sum = 0;
        for (String border : route) {
            sum += costs.get(border);
        }
        return sum;
    }

    private String between(int a, int b) {
        int low = Math.min(a, b);
        int high = Math.max(a, b);
        return name(low % width, low / width, high - low == width && high % width == low % width);
    }

    private boolean areNext(int a, int b) {
        return Math.abs(a % width - b % width) + Math.abs(a / width - b / width) == 1;
    }

    private long[][] allPairs(Map<String, Long> costs) {
        int n = width * height;
        long[][] far = new long[n][n];
        for (int a = 0; a < n; a++) {
            for (int b = 0; b < n; b++) {
                far[a][b] = a == b ? 0 : areNext(a, b) ? costs.get(between(a, b)) : 1L << 40;
            }
        }
        for (int k = 0; k < n; k++) {
            for (int a = 0; a < n; a++) {
                for (int b = 0; b < n; b++) {
                    far[a][b] = Math.min(far[a][b], far[a][k] + far[k][b]);
                }
            }
        }
        return far;
    }

    private static long distance(long[] far, TreeSet<Integer> tree) {
        long least = Long.MAX_VALUE;
        for (int cell : tree) {
            least = Math.min(least, far[cell]);
        }
        return least;
    }

    private TreeSet<String> grow(List<Integer> netPins, Map<String, Long> costs) {
        long[][] far = allPairs(costs);
        TreeSet<Integer> tree = new TreeSet<>();
        TreeSet<String> route = new TreeSet<>();
        tree.add(netPins.get(0));
        while (!tree.containsAll(netPins)) {
            int next = -1;
            for (int pin : netPins) {
                if (!tree.contains(pin)
                        && (next < 0 || distance(far[pin], tree) < distance(far[next], tree))) {
                    next = pin;
                }
            }
            TreeSet<Integer> way = new TreeSet<>();
            int cell = next;
            while (!tree.contains(cell)) {
                way.add(cell);
                int to = 0;
                while (!areNext(cell, to) || distance(far[to], tree) + costs.get(between(cell, to))
                        != distance(far[cell], tree)) {
                    to++;
                }
                route.add(between(cell, to));
                cell = to;
            }
            tree.addAll(way);
        }
        return route;
    }

    int rip(int net) {
        int before = length(net);
        routes.set(net, null);
        return before;
    }

    private boolean isAnyOver(Iterable<String> borders) {
        for (String border : borders) {
            if (over(border) > 0) {
                return true;
            }
        }
        return false;
    }

    private boolean isDone() {
        for (int net = 0; net < pins.size(); net++) {
            if (pins.get(net).size() >= 2 && routes.get(net) == null) {
                return false;
            }
        }
        return !isAnyOver(capacities.keySet());
    }

    int run(int most) {
        argument(most >= 0 && most <= 10);
        for (int played = 0; played < most; played++) {
            if (isDone()) {
                return played;
            }
            rounds++;
            for (int net = 0; net < pins.size(); net++) {
                TreeSet<String> route = routes.get(net);
                if (pins.get(net).size() >= 2 && (route == null || isAnyOver(route))) {
                    lead(net);
                }
            }
            for (String border : capacities.keySet()) {
                histories.merge(border, over(border) > 0 ? 1 : 0, Integer::sum);
            }
        }
        return most;
    }

    long forget() {
        long sum = 0;
        for (String border : capacities.keySet()) {
            sum += histories.put(border, 0);
        }
        return sum;
    }

    int length(int net) {
        TreeSet<String> route = routeOf(net);
        return route == null ? -1 : route.size();
    }

    int least(int net) {
        routeOf(net);
        List<Integer> cells = new ArrayList<>(pins.get(net));
        return leasts.computeIfAbsent(cells, all -> all.size() < 2 ? 0 : leastWith(all, all.size() - 2, 0));
    }

    /** Least spanning trees over the pins and up to so many more cells, each from a number on. */
    private int leastWith(List<Integer> cells, int more, int from) {
        int best = spanning(cells);
        if (more > 0) {
            for (int cell = from; cell < width * height; cell++) {
                if (isCorner(cells, cell)) {
                    cells.add(cell);
                    best = Math.min(best, leastWith(cells, more - 1, cell + 1));
                    cells.remove(cells.size() - 1);
                }
            }
        }
        return best;
    }

    /** By Hanan, only cells in the column of one pin and the row of another can help. */
    private boolean isCorner(List<Integer> cells, int cell) {
        boolean column = false;
        boolean row = false;
        for (int other : cells) {
            column |= other % width == cell % width;
            row |= other / width == cell / width;
        }
        return column && row;
    }

    private int spanning(List<Integer> cells) {
        int n = cells.size();
        int[] near = new int[n];
        Arrays.fill(near, 1000);
        near[0] = 0;
        int sum = 0;
        for (int round = 0; round < n; round++) {
            int next = -1;
            for (int i = 0; i < n; i++) {
                if (near[i] >= 0 && (next < 0 || near[i] < near[next])) {
                    next = i;
                }
            }
            sum += near[next];
            near[next] = -1;
            int a = cells.get(next);
            for (int i = 0; i < n; i++) {
                int b = cells.get(i);
                near[i] = Math.min(near[i],
                        Math.abs(a % width - b % width) + Math.abs(a / width - b / width));
            }
        }
        return sum;
    }

    boolean has(int net, int x, int y, boolean down) {
        TreeSet<String> route = routeOf(net);
        String border = borderOf(x, y, down);
        return route != null && route.contains(border);
    }

    int border(int x, int y, boolean down, int what) {
        String border = borderOf(x, y, down);
        argument(what >= 0 && what <= 3);
        return what == 0 ? use(border) : what == 1 ? capacities.get(border)
                : what == 2 ? histories.get(border) : over(border);
    }

    int line(boolean rows, int k, int what) {
        index(k >= 0 && k + 1L < (rows ? height : width));
        argument(what >= 0 && what <= 2);
        int sum = 0;
        if (what == 0) {
            for (List<Integer> netPins : pins) {
                int before = 0;
                for (int pin : netPins) {
                    before += (rows ? pin / width : pin % width) <= k ? 1 : 0;
                }
                sum += before > 0 && before < netPins.size() ? 1 : 0;
            }
            return sum;
        }
        for (int i = 0; i < (rows ? width : height); i++) {
            String border = rows ? name(i, k, true) : name(k, i, false);
            sum += what == 1 ? capacities.get(border) : use(border);
        }
        return sum;
    }

    int told(int what) {
        argument(what >= 0 && what <= 7);
        int routed = 0;
        int borders = 0;
        for (TreeSet<String> route : routes) {
            routed += route == null ? 0 : 1;
            borders += route == null ? 0 : route.size();
        }
        int full = 0;
        int excess = 0;
        for (String border : capacities.keySet()) {
            full += over(border) > 0 ? 1 : 0;
            excess += over(border);
        }
        return new int[] {pins.size(), routed, borders, full, excess, width, height, rounds}[what];
    }
}

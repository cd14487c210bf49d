/** Objects in states that cases begin with. */
final class Made {
    /** Numbers that are no net, and no line of any grid. */
    static final int[] FAR_OFF = {-1, 12, 100, Integer.MIN_VALUE, Integer.MAX_VALUE};
    /**
     * Cells that a grid of 4 by 2 does not have. Some would have the number of one that it has, as
     * x + 4 y is reckoned, a few of these only because an int wraps around.
     */
    static final int[][] OUTSIDE = {{-1, 0}, {0, -1}, {4, 0}, {0, 2}, {3, 2}, {4, 1}, {-1, -1},
            {-1, 1}, {-4, 1}, {4, -1}, {7, -1}, {8, -2}, {5, 0},
            {Integer.MIN_VALUE, 0}, {Integer.MAX_VALUE, 0}, {0, Integer.MIN_VALUE},
            {0, Integer.MAX_VALUE}, {0, 1 << 30}, {1, -(1 << 30)}, {Integer.MIN_VALUE, 1 << 29},
            {Integer.MAX_VALUE, Integer.MAX_VALUE}, {Integer.MIN_VALUE, Integer.MIN_VALUE}};

    private Made() {
    }

    static int addNet(GlobalRoutes routes, int... places) {
        int net = routes.net();
        for (int i = 0; i < places.length; i += 2) {
            routes.pin(net, places[i], places[i + 1]);
        }
        return net;
    }

    static GlobalRoutes withNet(int width, int height, int capacity, int... places) {
        GlobalRoutes routes = new GlobalRoutes(width, height, capacity);
        addNet(routes, places);
        return routes;
    }

    /**
     * A grid of 4 by 2 with some of all: nets 0 to 2 with routes, borders that are over and have
     * history, net 3 with five pins and a route, net 4 with two pins and none, net 5 with one pin.
     */
    static GlobalRoutes busy() {
        GlobalRoutes routes = new GlobalRoutes(4, 2, 1);
        addNet(routes, 0, 0, 2, 0);
        addNet(routes, 0, 0, 2, 0, 1, 1);
        addNet(routes, 0, 1, 3, 0);
        addNet(routes, 0, 0, 3, 0, 3, 1, 0, 1, 1, 0);
        routes.run(2);
        addNet(routes, 0, 1, 2, 1);
        addNet(routes, 1, 0);
        return routes;
    }

    /** A grid of 2 by 2 with as many nets as there may be, each with a route. */
    static GlobalRoutes fullOfNets() {
        GlobalRoutes routes = new GlobalRoutes(2, 2, 3);
        for (int i = 0; i < 12; i++) {
            addNet(routes, 0, 0, 1, i % 2);
        }
        routes.run(1);
        return routes;
    }

    /**
     * Room for 20, and eleven nets that use both borders of cell (0, 0); net 11 is from there to the
     * right and has no route. Whatever room both borders have alike, its least way is the one border.
     */
    static GlobalRoutes elevenOnOneCorner() {
        GlobalRoutes routes = new GlobalRoutes(2, 2, 20);
        for (int i = 0; i < 11; i++) {
            routes.lead(addNet(routes, 1, 0, 0, 0, 0, 1));
        }
        addNet(routes, 0, 0, 1, 0);
        return routes;
    }

    /** Two nets on the border to the right of (0, 0), which is over by 1; no history. */
    static GlobalRoutes crowded() {
        GlobalRoutes routes = new GlobalRoutes(2, 2, 3);
        routes.lead(addNet(routes, 0, 0, 1, 0));
        routes.lead(addNet(routes, 0, 0, 1, 0));
        routes.capacity(0, 0, false, 1);
        return routes;
    }
}

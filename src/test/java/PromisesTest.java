/** A test for each promise, with answers worked out by hand. */
public final class PromisesTest {
    private static final Check CHECK = new Check();
    private static final int[] FAR_OFF = {-1, Integer.MIN_VALUE, Integer.MAX_VALUE, 100};

    public static void main(String[] args) {
        promise1();
        promise2();
        promise3();
        promise4();
        promise5();
        promise5Ties();
        promise6();
        promise7();
        promise8();
        promise9();
        promise10();
        promise11();
        promise12();
        promise13();
        promise14();
        CHECK.end();
    }

    private static int addNet(GlobalRoutes routes, int... places) {
        int net = routes.net();
        for (int i = 0; i < places.length; i += 2) {
            routes.pin(net, places[i], places[i + 1]);
        }
        return net;
    }

    /** Two nets on the one border of the upper row: the border is over. */
    private static GlobalRoutes crowded() {
        GlobalRoutes routes = new GlobalRoutes(2, 2, 3);
        addNet(routes, 0, 0, 1, 0);
        addNet(routes, 0, 0, 1, 0);
        routes.lead(0);
        routes.lead(1);
        routes.capacity(0, 0, false, 1);
        return routes;
    }

    private static void size(int width, int height, int capacity, int... due) {
        GlobalRoutes routes = new GlobalRoutes(width, height, capacity);
        String text = "new(" + width + ", " + height + ", " + capacity + ")";
        CHECK.same(text + " width", routes.told(5), due[0]);
        CHECK.same(text + " height", routes.told(6), due[1]);
        CHECK.same(text + " capacity right", routes.border(due[0] - 2, due[1] - 1, false, 1), due[2]);
        CHECK.same(text + " capacity down", routes.border(due[0] - 1, due[1] - 2, true, 1), due[2]);
        CHECK.same(text + " history", routes.border(0, 0, true, 2), 0);
        CHECK.same(text + " nets", routes.told(0), 0);
        CHECK.same(text + " rounds", routes.told(7), 0);
    }

    private static void promise1() {
        size(2, 8, 0, 2, 8, 0);
        size(8, 2, 20, 8, 2, 20);
        size(5, 3, 7, 5, 3, 7);
        size(1, 9, -1, 2, 8, 0);
        size(9, 1, 21, 8, 2, 20);
        size(Integer.MIN_VALUE, Integer.MAX_VALUE, Integer.MIN_VALUE, 2, 8, 0);
        size(Integer.MAX_VALUE, Integer.MIN_VALUE, Integer.MAX_VALUE, 8, 2, 20);
    }

    private static void promise2() {
        GlobalRoutes routes = new GlobalRoutes(3, 2, 4);
        CHECK.same("first capacity", routes.capacity(1, 1, false, 0), 4);
        CHECK.same("second capacity", routes.capacity(1, 1, false, 20), 0);
        CHECK.same("third capacity", routes.capacity(1, 1, false, 20), 20);
        CHECK.same("the other way", routes.border(1, 0, true, 1), 4);
        CHECK.same("beside", routes.border(0, 1, false, 1), 4);
        CHECK.argument("capacity -1", () -> routes.capacity(1, 1, false, -1));
        CHECK.argument("capacity 21", () -> routes.capacity(1, 1, false, 21));
        CHECK.index("right of the last column", () -> routes.capacity(2, 0, false, 1));
        CHECK.index("down from the last row", () -> routes.capacity(0, 1, true, 1));
        CHECK.index("border before number", () -> routes.capacity(2, 0, false, 21));
        CHECK.same("nothing changed", routes.border(1, 1, false, 1), 20);
        for (int far : FAR_OFF) {
            CHECK.index("capacity x " + far, () -> routes.capacity(far, 0, true, 1));
            CHECK.index("capacity y " + far, () -> routes.capacity(0, far, false, 1));
            CHECK.index("capacity x right " + far, () -> routes.capacity(far, 0, false, 1));
            CHECK.index("capacity y down " + far, () -> routes.capacity(0, far, true, 1));
        }
        GlobalRoutes full = crowded();
        CHECK.same("a route stays when its border is over", full.length(0), 1);
        CHECK.same("over by capacity", full.border(0, 0, false, 3), 1);
    }

    private static void promise3() {
        GlobalRoutes routes = new GlobalRoutes(2, 2, 1);
        for (int i = 0; i < 12; i++) {
            CHECK.same("net " + i, routes.net(), i);
            int added = i;
            CHECK.state("without pins", () -> routes.lead(added));
            CHECK.same("without a route", routes.length(i), GlobalRoutes.NONE);
        }
        CHECK.state("a 13th net", routes::net);
        CHECK.same("12 nets", routes.told(0), 12);
        CHECK.index("net 12", () -> routes.length(12));
    }

    private static void promise4() {
        GlobalRoutes routes = new GlobalRoutes(4, 3, 1);
        CHECK.index("pin without nets", () -> routes.pin(0, 0, 0));
        addNet(routes);
        CHECK.same("first pin", routes.pin(0, 3, 2), 1);
        CHECK.same("second pin", routes.pin(0, 0, 0), 2);
        CHECK.argument("same cell", () -> routes.pin(0, 3, 2));
        CHECK.argument("x 4", () -> routes.pin(0, 4, 0));
        CHECK.argument("y 3", () -> routes.pin(0, 0, 3));
        CHECK.index("net before cell", () -> routes.pin(1, 4, 0));
        for (int far : FAR_OFF) {
            CHECK.index("pin net " + far, () -> routes.pin(far, 0, 0));
            CHECK.argument("pin x " + far, () -> routes.pin(0, far, 0));
            CHECK.argument("pin y " + far, () -> routes.pin(0, 0, far));
        }
        routes.lead(0);
        CHECK.argument("same cell with a route", () -> routes.pin(0, 0, 0));
        CHECK.same("the route stays", routes.length(0), 5);
        CHECK.same("third pin", routes.pin(0, 1, 1), 3);
        CHECK.same("the route goes", routes.length(0), GlobalRoutes.NONE);
        CHECK.same("its uses go", routes.line(false, 1, 2), 0);
        CHECK.same("fourth pin", routes.pin(0, 1, 2), 4);
        CHECK.same("fifth pin", routes.pin(0, 2, 2), 5);
        routes.lead(0);
        CHECK.state("a sixth pin", () -> routes.pin(0, 3, 0));
        CHECK.argument("cell before count", () -> routes.pin(0, 1, 1));
        CHECK.argument("no cell before count", () -> routes.pin(0, 4, 1));
        CHECK.same("a refused pin leaves the route", routes.told(1), 1);
        addNet(routes);
        CHECK.same("another net may have the cell", routes.pin(1, 3, 2), 1);
    }

    private static void promise5() {
        GlobalRoutes routes = new GlobalRoutes(3, 3, 1);
        addNet(routes, 0, 0, 2, 0);
        CHECK.same("straight", routes.lead(0), 2);
        CHECK.same("again, its own use does not count", routes.lead(0), 2);
        CHECK.same("use once", routes.border(0, 0, false, 0), 1);
        addNet(routes, 0, 0, 2, 0);
        CHECK.same("round what is full", routes.lead(1), 4);
        CHECK.same("first step down", routes.has(1, 0, 0, true), true);
        addNet(routes, 0, 0, 1, 0);
        CHECK.same("through what is full, if that is least", routes.lead(2), 5);
        addNet(routes, 0, 0);
        CHECK.state("one pin", () -> routes.lead(3));
        for (int far : FAR_OFF) {
            CHECK.index("lead " + far, () -> routes.lead(far));
        }
        CHECK.index("net before pins", () -> routes.lead(4));
        GlobalRoutes none = new GlobalRoutes(2, 2, 0);
        addNet(none, 0, 0, 1, 1, 1, 0);
        CHECK.same("capacity 0 costs 5 a border", none.lead(0), 10);
        addNet(none, 0, 0, 1, 0);
        CHECK.same("4 for each above", none.lead(1), 9);
        GlobalRoutes old = new GlobalRoutes(2, 2, 0);
        addNet(old, 0, 0, 1, 0);
        old.run(2);
        CHECK.same("history costs", old.lead(0), 7);
        old.run(9);
        CHECK.same("a way of 15 as good as its own: the lesser neighbour", old.length(0), 1);
        old.run(1);
        CHECK.same("16 against 15: history makes it go round", old.length(0), 3);
        old.run(1);
        CHECK.same("16 against 18", old.length(0), 1);
    }

    private static void promise5Ties() {
        GlobalRoutes routes = new GlobalRoutes(3, 3, 1);
        addNet(routes, 0, 0, 2, 2);
        routes.lead(0);
        CHECK.same("from the far pin up first", routes.has(0, 2, 1, true), true);
        CHECK.same("then up again", routes.has(0, 2, 0, true), true);
        CHECK.same("then left", routes.has(0, 1, 0, false), true);
        addNet(routes, 2, 2, 0, 0);
        routes.rip(0);
        routes.lead(1);
        CHECK.same("from pin 1, right first", routes.has(1, 0, 0, false), true);
        CHECK.same("not down", routes.has(1, 0, 0, true), false);
        GlobalRoutes near = new GlobalRoutes(5, 5, 1);
        addNet(near, 2, 2, 4, 3, 4, 1);
        CHECK.same("first of equally near pins", near.lead(0), 4);
        CHECK.same("pin 1 goes up at once", near.has(0, 4, 2, true), true);
        CHECK.same("pin 2 joins its way", near.has(0, 4, 1, true), true);
        GlobalRoutes nearest = new GlobalRoutes(5, 3, 1);
        addNet(nearest, 0, 0, 4, 2, 0, 2);
        CHECK.same("the nearest pin first", nearest.lead(0), 6);
        CHECK.same("the far one joins the near one", nearest.has(0, 0, 2, false), true);
        GlobalRoutes passed = new GlobalRoutes(4, 2, 1);
        addNet(passed, 1, 0, 3, 0, 2, 0);
        CHECK.same("pins on the way", passed.lead(0), 2);
    }

    private static void promise6() {
        GlobalRoutes routes = new GlobalRoutes(4, 4, 1);
        CHECK.index("rip without nets", () -> routes.rip(0));
        addNet(routes, 0, 0, 3, 3);
        addNet(routes, 0, 0, 3, 3);
        CHECK.same("rip without a route", routes.rip(0), GlobalRoutes.NONE);
        routes.lead(0);
        routes.lead(1);
        CHECK.same("rip", routes.rip(0), 6);
        CHECK.same("rip again", routes.rip(0), GlobalRoutes.NONE);
        CHECK.same("uses of the other stay", routes.told(2), 6);
        CHECK.same("uses stay on lines", routes.line(true, 0, 2) + routes.line(true, 1, 2)
                + routes.line(true, 2, 2), 3);
        CHECK.same("no border", routes.has(0, 2, 0, false), false);
        for (int far : FAR_OFF) {
            CHECK.index("rip " + far, () -> routes.rip(far));
        }
    }

    private static void promise7() {
        GlobalRoutes routes = new GlobalRoutes(2, 2, 1);
        CHECK.same("nothing to do", routes.run(10), 0);
        addNet(routes, 0, 0);
        CHECK.same("one pin is nothing to do", routes.run(10), 0);
        routes.pin(0, 1, 0);
        CHECK.same("no rounds", routes.run(0), 0);
        CHECK.same("one round", routes.run(10), 1);
        CHECK.same("done", routes.run(10), 0);
        for (int far : new int[] {-1, 11, Integer.MIN_VALUE, Integer.MAX_VALUE}) {
            CHECK.argument("run " + far, () -> routes.run(far));
        }
        addNet(routes, 0, 0, 1, 0);
        addNet(routes, 0, 0, 1, 0);
        CHECK.same("three nets on two ways", routes.run(10), 10);
        CHECK.same("rounds in all", routes.told(7), 11);
        CHECK.same("history grew", routes.forget() > 9, true);

        GlobalRoutes full = crowded();
        CHECK.same("over makes a round", full.run(10), 1);
        CHECK.same("the first net gave way", full.length(0), 3);
        CHECK.same("the second was not over then", full.length(1), 1);
        CHECK.same("nothing over, no history", full.forget(), 0);

        GlobalRoutes hopeless = new GlobalRoutes(2, 2, 0);
        addNet(hopeless, 0, 0, 1, 0);
        CHECK.same("all rounds", hopeless.run(3), 3);
        CHECK.same("led in round 1", hopeless.border(0, 0, false, 2), 3);
        CHECK.same("as before", hopeless.length(0), 1);

        GlobalRoutes triple = crowded();
        addNet(triple, 0, 0, 1, 0);
        triple.capacity(0, 0, true, 0);
        triple.capacity(0, 1, false, 0);
        triple.capacity(1, 0, true, 0);
        triple.run(1);
        CHECK.same("over by two", triple.border(0, 0, false, 3), 2);
        CHECK.same("1 more history, by however many it is over", triple.border(0, 0, false, 2), 1);

        GlobalRoutes calm = new GlobalRoutes(3, 3, 1);
        calm.capacity(0, 0, false, 0);
        addNet(calm, 0, 0, 1, 0);
        calm.lead(0);
        CHECK.same("round the corner", calm.length(0), 3);
        calm.capacity(0, 0, false, 1);
        addNet(calm, 2, 1, 2, 2);
        CHECK.same("a round for the other net", calm.run(10), 1);
        CHECK.same("a net with a good route is not led", calm.length(0), 3);
    }

    private static void promise8() {
        GlobalRoutes routes = new GlobalRoutes(2, 2, 0);
        CHECK.same("nothing to forget", routes.forget(), 0);
        addNet(routes, 0, 0, 1, 1);
        CHECK.same("four rounds", routes.run(4), 4);
        CHECK.same("two borders a round", routes.forget(), 8);
        CHECK.same("forgotten", routes.forget(), 0);
        CHECK.same("no history", routes.border(1, 0, true, 2), 0);
        CHECK.same("costs are as at first", routes.lead(0), 10);
        CHECK.same("rounds are not forgotten", routes.told(7), 4);
    }

    private static void promise9() {
        GlobalRoutes routes = new GlobalRoutes(8, 8, 1);
        CHECK.index("length without nets", () -> routes.length(0));
        addNet(routes, 0, 0, 7, 7);
        CHECK.same("no route", routes.length(0), GlobalRoutes.NONE);
        routes.lead(0);
        CHECK.same("corner to corner", routes.length(0), 14);
        CHECK.same("told twice", routes.length(0), 14);
        for (int far : FAR_OFF) {
            CHECK.index("length " + far, () -> routes.length(far));
        }
        CHECK.index("length 1", () -> routes.length(1));
    }

    private static void promise10() {
        GlobalRoutes routes = new GlobalRoutes(5, 5, 0);
        addNet(routes, 2, 0);
        CHECK.same("one pin", routes.least(0), 0);
        routes.pin(0, 0, 2);
        CHECK.same("two pins", routes.least(0), 4);
        routes.pin(0, 4, 2);
        CHECK.same("three pins", routes.least(0), 6);
        routes.pin(0, 2, 4);
        CHECK.same("four pins", routes.least(0), 8);
        routes.pin(0, 2, 2);
        CHECK.same("five pins", routes.least(0), 8);
        for (int far : FAR_OFF) {
            CHECK.index("least " + far, () -> routes.least(far));
        }
    }

    private static void promise11() {
        GlobalRoutes routes = new GlobalRoutes(3, 2, 1);
        addNet(routes, 0, 0, 2, 0);
        CHECK.same("no route", routes.has(0, 0, 0, false), false);
        routes.lead(0);
        CHECK.same("first border", routes.has(0, 0, 0, false), true);
        CHECK.same("second border", routes.has(0, 1, 0, false), true);
        CHECK.same("a border down", routes.has(0, 1, 0, true), false);
        CHECK.same("lower row", routes.has(0, 0, 1, false), false);
        CHECK.index("right of the last column", () -> routes.has(0, 2, 0, false));
        CHECK.index("down from the last row", () -> routes.has(0, 0, 1, true));
        for (int far : FAR_OFF) {
            CHECK.index("has net " + far, () -> routes.has(far, 0, 0, true));
            CHECK.index("has x " + far, () -> routes.has(0, far, 0, true));
            CHECK.index("has y " + far, () -> routes.has(0, 0, far, false));
        }
    }

    private static void promise12() {
        GlobalRoutes routes = crowded();
        CHECK.same("use", routes.border(0, 0, false, 0), 2);
        CHECK.same("capacity", routes.border(0, 0, false, 1), 1);
        CHECK.same("history", routes.border(0, 0, false, 2), 0);
        CHECK.same("over", routes.border(0, 0, false, 3), 1);
        CHECK.same("not over is 0, not less", routes.border(0, 0, true, 3), 0);
        routes.capacity(0, 0, false, 2);
        CHECK.same("full is not over", routes.border(0, 0, false, 3), 0);
        for (int what : new int[] {-1, 4, Integer.MIN_VALUE, Integer.MAX_VALUE}) {
            CHECK.argument("border what " + what, () -> routes.border(0, 0, false, what));
            CHECK.index("border before what " + what, () -> routes.border(1, 0, false, what));
        }
        CHECK.index("right of the last column", () -> routes.border(1, 0, false, 0));
        CHECK.index("down from the last row", () -> routes.border(0, 1, true, 0));
        for (int far : FAR_OFF) {
            CHECK.index("border x " + far, () -> routes.border(far, 0, true, 0));
            CHECK.index("border y " + far, () -> routes.border(0, far, false, 0));
        }
    }

    private static void promise13() {
        GlobalRoutes routes = new GlobalRoutes(4, 3, 2);
        addNet(routes, 0, 0, 3, 0);
        addNet(routes, 1, 0, 1, 2, 2, 1);
        addNet(routes, 1, 1);
        CHECK.same("line of columns 0", routes.line(false, 0, 0), 1);
        CHECK.same("line of columns 1", routes.line(false, 1, 0), 2);
        CHECK.same("line of columns 2", routes.line(false, 2, 0), 1);
        CHECK.same("line of rows 0", routes.line(true, 0, 0), 1);
        CHECK.same("line of rows 1", routes.line(true, 1, 0), 1);
        CHECK.same("capacities of columns", routes.line(false, 2, 1), 6);
        CHECK.same("capacities of rows", routes.line(true, 1, 1), 8);
        routes.capacity(2, 2, false, 20);
        routes.capacity(3, 1, true, 0);
        CHECK.same("capacities of columns then", routes.line(false, 2, 1), 24);
        CHECK.same("capacities of rows then", routes.line(true, 1, 1), 6);
        routes.run(10);
        CHECK.same("uses of columns 1", routes.line(false, 1, 2), 2);
        CHECK.same("uses of columns 0", routes.line(false, 0, 2), 1);
        CHECK.same("uses of rows 0", routes.line(true, 0, 2), 1);
        CHECK.index("no line of columns 3", () -> routes.line(false, 3, 0));
        CHECK.index("no line of rows 2", () -> routes.line(true, 2, 0));
        for (int far : FAR_OFF) {
            CHECK.index("line of columns " + far, () -> routes.line(false, far, 0));
            CHECK.index("line of rows " + far, () -> routes.line(true, far, 3));
        }
        for (int what : new int[] {-1, 3, Integer.MIN_VALUE, Integer.MAX_VALUE}) {
            CHECK.argument("line what " + what, () -> routes.line(false, 2, what));
            CHECK.index("line before what " + what, () -> routes.line(true, 2, what));
        }
    }

    private static void promise14() {
        GlobalRoutes routes = crowded();
        addNet(routes, 0, 0, 1, 1);
        routes.capacity(0, 0, true, 0);
        routes.capacity(1, 0, true, 0);
        routes.lead(2);
        int[] due = {3, 3, 4, 2, 2, 2, 2, 0};
        for (int what = 0; what < due.length; what++) {
            CHECK.same("told " + what, routes.told(what), due[what]);
        }
        routes.rip(1);
        routes.capacity(0, 1, false, 0);
        CHECK.same("routed then", routes.told(1), 2);
        CHECK.same("borders then", routes.told(2), 3);
        CHECK.same("over then", routes.told(3), 2);
        CHECK.same("by how many then", routes.told(4), 2);
        routes.run(2);
        CHECK.same("rounds then", routes.told(7), 2);
        for (int what : new int[] {-1, 8, Integer.MIN_VALUE, Integer.MAX_VALUE}) {
            CHECK.argument("told " + what, () -> routes.told(what));
        }
        GlobalRoutes wide = new GlobalRoutes(7, 3, 1);
        CHECK.same("width", wide.told(5), 7);
        CHECK.same("height", wide.told(6), 3);
    }
}

import java.util.function.Consumer;

/** The boundary cases of promises 1 to 4: a new object, capacity, net, pin. */
public final class EdgesOfMakingTest {
    private static final int[] BELOW_TWO = {1, 0, -1, -8, Integer.MIN_VALUE};
    private static final int[] ABOVE_EIGHT = {9, 10, 16, Integer.MAX_VALUE};
    private static final int[] BELOW_ZERO = {-1, -20, Integer.MIN_VALUE};
    private static final int[] ABOVE_TWENTY = {21, 40, Integer.MAX_VALUE};

    public static void main(String[] args) {
        Cases.run(EdgesOfMakingTest.class);
    }

    private static void size(Check check, int width, int height, int dueWidth, int dueHeight) {
        GlobalRoutes routes = new GlobalRoutes(width, height, 1);
        String made = width + " by " + height;
        check.same(made + " width", routes.told(5), dueWidth);
        check.same(made + " height", routes.told(6), dueHeight);
        check.same(made + " last border to the right", routes.border(dueWidth - 2, dueHeight - 1, false, 1), 1);
        check.same(made + " last border down", routes.border(dueWidth - 1, dueHeight - 2, true, 1), 1);
        check.index(made + " no more columns", () -> routes.border(dueWidth, 0, true, 1));
        check.index(made + " no more rows", () -> routes.border(0, dueHeight, false, 1));
    }

    static void promise1_widthBelowTwoIsTwo(Check check) {
        for (int width : BELOW_TWO) {
            size(check, width, 5, 2, 5);
        }
    }

    static void promise1_widthAboveEightIsEight(Check check) {
        for (int width : ABOVE_EIGHT) {
            size(check, width, 5, 8, 5);
        }
    }

    static void promise1_heightBelowTwoIsTwo(Check check) {
        for (int height : BELOW_TWO) {
            size(check, 5, height, 5, 2);
        }
    }

    static void promise1_heightAboveEightIsEight(Check check) {
        for (int height : ABOVE_EIGHT) {
            size(check, 5, height, 5, 8);
        }
    }

    static void promise1_eachSizeFromTwoToEightIsTaken(Check check) {
        for (int width = 2; width <= 8; width++) {
            for (int height = 2; height <= 8; height++) {
                size(check, width, height, width, height);
            }
        }
    }

    static void promise1_allNumbersTooSmallAtOnce(Check check) {
        GlobalRoutes routes = new GlobalRoutes(Integer.MIN_VALUE, Integer.MIN_VALUE, Integer.MIN_VALUE);
        check.sameText("the object", Seen.of(routes), Seen.of(new GlobalRoutes(2, 2, 0)));
    }

    static void promise1_allNumbersTooLargeAtOnce(Check check) {
        GlobalRoutes routes = new GlobalRoutes(Integer.MAX_VALUE, Integer.MAX_VALUE, Integer.MAX_VALUE);
        check.same("width", routes.told(5), 8);
        check.same("height", routes.told(6), 8);
        check.same("capacity", routes.border(6, 7, false, 1), 20);
    }

    static void promise1_capacityBelowZeroIsZero(Check check) {
        for (int capacity : BELOW_ZERO) {
            eachBorder(check, capacity, 0);
        }
    }

    static void promise1_capacityAboveTwentyIsTwenty(Check check) {
        for (int capacity : ABOVE_TWENTY) {
            eachBorder(check, capacity, 20);
        }
    }

    static void promise1_eachCapacityFromZeroToTwentyIsTaken(Check check) {
        for (int capacity = 0; capacity <= 20; capacity++) {
            eachBorder(check, capacity, capacity);
        }
    }

    private static void eachBorder(Check check, int capacity, int due) {
        GlobalRoutes routes = new GlobalRoutes(8, 8, capacity);
        for (int a = 0; a < 7; a++) {
            for (int b = 0; b < 8; b++) {
                check.same(capacity + " to the right of " + a + ", " + b, routes.border(a, b, false, 1), due);
                check.same(capacity + " down from " + b + ", " + a, routes.border(b, a, true, 1), due);
            }
        }
    }

    static void promise1_historyIsZeroAtFirst(Check check) {
        GlobalRoutes routes = new GlobalRoutes(8, 8, 0);
        for (int a = 0; a < 7; a++) {
            for (int b = 0; b < 8; b++) {
                check.same("to the right of " + a + ", " + b, routes.border(a, b, false, 2), 0);
                check.same("down from " + b + ", " + a, routes.border(b, a, true, 2), 0);
            }
        }
        check.same("forget", routes.forget(), 0);
    }

    static void promise1_noNetsAtFirst(Check check) {
        GlobalRoutes routes = new GlobalRoutes(4, 4, 1);
        for (int what = 0; what < 5; what++) {
            check.same("told(" + what + ")", routes.told(what), 0);
        }
        check.index("pin(0, 0, 0)", () -> routes.pin(0, 0, 0));
        check.index("lead(0)", () -> routes.lead(0));
        check.index("rip(0)", () -> routes.rip(0));
        check.index("length(0)", () -> routes.length(0));
        check.index("least(0)", () -> routes.least(0));
        check.index("has(0, 0, 0, true)", () -> routes.has(0, 0, 0, true));
    }

    static void promise1_objectsShareNothing(Check check) {
        GlobalRoutes first = Made.busy();
        String before = Seen.of(first);
        GlobalRoutes second = Made.busy();
        second.capacity(1, 1, false, 7);
        second.run(2);
        second.rip(3);
        second.net();
        check.sameText("an object beside another", Seen.of(first), before);
        check.sameText("an object like the first", Seen.of(Made.busy()), before);
    }

    /** A tree over all four cells has three borders, each of which is over in every round. */
    static void promise1_the512thCallIsAnswered(Check check) {
        GlobalRoutes routes = Made.withNet(2, 2, 0, 0, 0, 1, 0, 0, 1, 1, 1);
        for (int call = 6; call <= 510; call++) {
            check.same("call " + call, routes.run(10), 10);
        }
        check.same("call 511, rounds", routes.told(7), 5050);
        check.same("call 512, history", routes.forget(), 15150);
    }

    private static Consumer<GlobalRoutes> capacity(int x, int y, boolean down, int c) {
        return routes -> routes.capacity(x, y, down, c);
    }

    private static void noBorder(Check check, int x, int y, boolean down, int c) {
        Seen.refused(check, "capacity(" + x + ", " + y + ", " + down + ", " + c + ")",
                IndexOutOfBoundsException.class, Made::busy, capacity(x, y, down, c));
    }

    private static void noCapacity(Check check, int c) {
        Seen.refused(check, "capacity(1, 0, false, " + c + ")",
                IllegalArgumentException.class, Made::busy, capacity(1, 0, false, c));
        Seen.refused(check, "capacity(3, 0, true, " + c + ")",
                IllegalArgumentException.class, Made::busy, capacity(3, 0, true, c));
    }

    static void promise2_eachCapacityFromZeroToTwentyIsTaken(Check check) {
        GlobalRoutes routes = new GlobalRoutes(2, 2, 20);
        int before = 20;
        for (int c = 0; c <= 20; c++) {
            check.same("before " + c, routes.capacity(0, 1, false, c), before);
            check.same("now " + c, routes.border(0, 1, false, 1), c);
            before = c;
        }
    }

    static void promise2_capacityBelowZeroIsRefused(Check check) {
        for (int c : BELOW_ZERO) {
            noCapacity(check, c);
        }
    }

    static void promise2_capacityAboveTwentyIsRefused(Check check) {
        for (int c : ABOVE_TWENTY) {
            noCapacity(check, c);
        }
    }

    static void promise2_theSameCapacityAgainIsAnswered(Check check) {
        GlobalRoutes routes = new GlobalRoutes(2, 2, 0);
        check.same("0 behind 0", routes.capacity(0, 0, true, 0), 0);
        check.same("20 behind 0", routes.capacity(0, 0, true, 20), 0);
        check.same("20 behind 20", routes.capacity(0, 0, true, 20), 20);
    }

    static void promise2_noOtherBorderChanges(Check check) {
        GlobalRoutes routes = new GlobalRoutes(3, 3, 4);
        routes.capacity(1, 1, false, 9);
        check.same("that one", routes.border(1, 1, false, 1), 9);
        check.same("down from the same cell", routes.border(1, 1, true, 1), 4);
        check.same("its column line", routes.line(false, 1, 1), 17);
        check.same("the column line before", routes.line(false, 0, 1), 12);
        check.same("row line 0", routes.line(true, 0, 1), 12);
        check.same("row line 1", routes.line(true, 1, 1), 12);
    }

    static void promise2_noBorderToTheRightOfTheLastColumn(Check check) {
        for (int y = 0; y < 2; y++) {
            noBorder(check, 3, y, false, 2);
        }
    }

    static void promise2_noBorderDownFromTheLastRow(Check check) {
        for (int x = 0; x < 4; x++) {
            noBorder(check, x, 1, true, 2);
        }
    }

    static void promise2_noBorderOfACellOutsideTheGrid(Check check) {
        for (int[] cell : Made.OUTSIDE) {
            noBorder(check, cell[0], cell[1], false, 2);
            noBorder(check, cell[0], cell[1], true, 2);
        }
    }

    static void promise2_noSuchBorderComesBeforeAWrongCapacity(Check check) {
        for (int c : new int[] {-1, 21, Integer.MIN_VALUE, Integer.MAX_VALUE}) {
            noBorder(check, 3, 0, false, c);
            noBorder(check, 0, 1, true, c);
            noBorder(check, -1, 0, false, c);
        }
    }

    static void promise2_routesStayWhenABorderGetsTooFull(Check check) {
        GlobalRoutes routes = Made.crowded();
        check.same("what it was", routes.capacity(0, 0, false, 0), 1);
        check.same("use", routes.border(0, 0, false, 0), 2);
        check.same("over", routes.border(0, 0, false, 3), 2);
        check.same("routes", routes.told(1), 2);
    }

    static void promise2_historyStaysWhenABorderGetsRoom(Check check) {
        GlobalRoutes routes = Made.withNet(2, 2, 0, 0, 0, 1, 0);
        routes.run(2);
        check.same("before", routes.border(0, 0, false, 2), 2);
        routes.capacity(0, 0, false, 20);
        check.same("with room", routes.border(0, 0, false, 2), 2);
        check.same("over", routes.border(0, 0, false, 3), 0);
    }

    static void promise3_netsAreNumberedFromZeroToEleven(Check check) {
        GlobalRoutes routes = new GlobalRoutes(2, 2, 1);
        for (int i = 0; i < 12; i++) {
            int next = i;
            check.index("length(" + i + ") before", () -> routes.length(next));
            check.same("net()", routes.net(), i);
            check.same("length(" + i + ")", routes.length(i), GlobalRoutes.NONE);
            check.same("nets", routes.told(0), i + 1);
        }
    }

    static void promise3_aThirteenthNetIsRefused(Check check) {
        Seen.refused(check, "net()", IllegalStateException.class, Made::fullOfNets, GlobalRoutes::net);
    }

    static void promise3_nothingMakesRoomForAThirteenthNet(Check check) {
        GlobalRoutes routes = Made.fullOfNets();
        for (int net = 0; net < 12; net++) {
            routes.rip(net);
        }
        routes.forget();
        check.state("net() behind rip and forget", routes::net);
        check.state("net() again", routes::net);
        check.same("nets", routes.told(0), 12);
    }

    static void promise3_aNewNetHasNoPins(Check check) {
        GlobalRoutes routes = Made.busy();
        check.same("net()", routes.net(), 6);
        check.state("lead(6)", () -> routes.lead(6));
        check.same("least(6)", routes.least(6), 0);
        check.same("rip(6)", routes.rip(6), GlobalRoutes.NONE);
        check.same("pin(6, 3, 1)", routes.pin(6, 3, 1), 1);
    }

    static void promise3_aNewNetChangesNothingElse(Check check) {
        GlobalRoutes routes = Made.busy();
        String due = Seen.of(routes).replace("told 6", "told 7") + "\nnet 6: -1 0";
        routes.net();
        check.sameText("the object", Seen.of(routes), due);
    }

    private static Consumer<GlobalRoutes> pin(int net, int x, int y) {
        return routes -> routes.pin(net, x, y);
    }

    private static void noPin(Check check, Class<? extends RuntimeException> due, int net, int x, int y) {
        Seen.refused(check, "pin(" + net + ", " + x + ", " + y + ")", due, Made::busy, pin(net, x, y));
    }

    static void promise4_pinsAreCountedFromOneToFive(Check check) {
        GlobalRoutes routes = Made.withNet(8, 8, 1);
        int[][] places = {{7, 7}, {0, 0}, {7, 0}, {0, 7}, {3, 4}};
        for (int i = 0; i < 5; i++) {
            check.same("pin " + i, routes.pin(0, places[i][0], places[i][1]), i + 1);
        }
    }

    static void promise4_aSixthPinIsRefused(Check check) {
        noPin(check, IllegalStateException.class, 3, 1, 1);
        noPin(check, IllegalStateException.class, 3, 2, 0);
    }

    static void promise4_aCellThatIsAPinAlreadyIsRefused(Check check) {
        noPin(check, IllegalArgumentException.class, 0, 0, 0);
        noPin(check, IllegalArgumentException.class, 0, 2, 0);
        noPin(check, IllegalArgumentException.class, 1, 1, 1);
        noPin(check, IllegalArgumentException.class, 4, 2, 1);
        noPin(check, IllegalArgumentException.class, 5, 1, 0);
    }

    static void promise4_aCellOutsideTheGridIsRefused(Check check) {
        for (int[] cell : Made.OUTSIDE) {
            noPin(check, IllegalArgumentException.class, 0, cell[0], cell[1]);
            noPin(check, IllegalArgumentException.class, 5, cell[0], cell[1]);
        }
    }

    static void promise4_noSuchNet(Check check) {
        noPin(check, IndexOutOfBoundsException.class, 6, 0, 0);
        for (int net : Made.FAR_OFF) {
            noPin(check, IndexOutOfBoundsException.class, net, 0, 0);
        }
    }

    static void promise4_noSuchNetComesBeforeAWrongCell(Check check) {
        noPin(check, IndexOutOfBoundsException.class, 6, 4, 0);
        noPin(check, IndexOutOfBoundsException.class, -1, 0, -1);
    }

    static void promise4_aWrongCellComesBeforeASixthPin(Check check) {
        noPin(check, IllegalArgumentException.class, 3, 4, 0);
        noPin(check, IllegalArgumentException.class, 3, 0, 2);
        noPin(check, IllegalArgumentException.class, 3, -1, 1);
    }

    static void promise4_aPinAlreadyComesBeforeASixthPin(Check check) {
        int[][] places = {{0, 0}, {3, 0}, {3, 1}, {0, 1}, {1, 0}};
        for (int[] place : places) {
            noPin(check, IllegalArgumentException.class, 3, place[0], place[1]);
        }
    }

    static void promise4_eachCellOfTheGridMayBeAPin(Check check) {
        GlobalRoutes routes = new GlobalRoutes(8, 7, 1);
        for (int cell = 0; cell < 56; cell++) {
            if (cell % 5 == 0) {
                routes.net();
            }
            int x = cell % 8;
            int y = cell / 8;
            check.same("pin at " + x + ", " + y, routes.pin(cell / 5, x, y), cell % 5 + 1);
        }
    }

    static void promise4_theSmallestGridHasRoomForFourPins(Check check) {
        GlobalRoutes routes = Made.withNet(2, 2, 1, 0, 0, 1, 0, 0, 1);
        check.same("the fourth", routes.pin(0, 1, 1), 4);
        for (int cell = 0; cell < 4; cell++) {
            int x = cell % 2;
            int y = cell / 2;
            check.argument("a fifth at " + x + ", " + y, () -> routes.pin(0, x, y));
        }
    }

    static void promise4_anotherNetMayHaveTheSameCell(Check check) {
        GlobalRoutes routes = new GlobalRoutes(2, 2, 1);
        for (int i = 0; i < 12; i++) {
            routes.net();
            check.same("pin of net " + i, routes.pin(i, 1, 1), 1);
        }
    }

    static void promise4_theRouteGoesEvenIfItHasTheCell(Check check) {
        GlobalRoutes routes = Made.withNet(4, 2, 1, 0, 0, 2, 0);
        routes.lead(0);
        check.same("pin on the route", routes.pin(0, 1, 0), 3);
        check.same("length", routes.length(0), GlobalRoutes.NONE);
        check.same("has", routes.has(0, 0, 0, false), false);
        check.same("use", routes.border(0, 0, false, 0), 0);
        check.same("nets with routes", routes.told(1), 0);
        check.same("borders of routes", routes.told(2), 0);
    }

    static void promise4_withoutARouteNoneGoes(Check check) {
        GlobalRoutes routes = Made.withNet(3, 2, 1, 0, 0);
        check.same("second pin", routes.pin(0, 2, 0), 2);
        check.same("length", routes.length(0), GlobalRoutes.NONE);
        check.same("use", routes.border(0, 0, false, 0), 0);
        check.same("third pin", routes.pin(0, 1, 0), 3);
        check.same("use then", routes.border(0, 0, false, 0), 0);
    }

    static void promise4_routesOfOtherNetsAndHistoryStay(Check check) {
        GlobalRoutes routes = Made.withNet(2, 2, 0, 0, 0, 1, 0);
        Made.addNet(routes, 0, 0, 1, 0);
        routes.run(1);
        check.same("use before", routes.border(0, 0, false, 0), 2);
        routes.pin(0, 1, 1);
        check.same("length of the other", routes.length(1), 1);
        check.same("use then", routes.border(0, 0, false, 0), 1);
        check.same("history", routes.forget(), 1);
    }
}

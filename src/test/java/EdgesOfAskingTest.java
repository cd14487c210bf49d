import java.util.function.Consumer;

/** The boundary cases of promises 9 to 14: length, least, has, border, line, told. */
public final class EdgesOfAskingTest {
    private static final Class<IndexOutOfBoundsException> INDEX = IndexOutOfBoundsException.class;
    private static final Class<IllegalArgumentException> ARGUMENT = IllegalArgumentException.class;

    public static void main(String[] args) {
        Cases.run(EdgesOfAskingTest.class);
    }

    private static void refused(Check check, String call, Class<? extends RuntimeException> due,
            Consumer<GlobalRoutes> calling) {
        Seen.refused(check, call, due, Made::busy, calling);
    }

    /** Only looking changes nothing. */
    private static void leavesAll(Check check, String call, Consumer<GlobalRoutes> calling) {
        GlobalRoutes routes = Made.busy();
        String before = Seen.of(routes);
        calling.accept(routes);
        check.sameText(call + ", then the object", Seen.of(routes), before);
    }

    static void promise9_noSuchNet(Check check) {
        refused(check, "length(6)", INDEX, routes -> routes.length(6));
        for (int net : Made.FAR_OFF) {
            refused(check, "length(" + net + ")", INDEX, routes -> routes.length(net));
        }
    }

    static void promise9_noneWithoutARoute(Check check) {
        GlobalRoutes routes = new GlobalRoutes(3, 3, 1);
        routes.net();
        check.same("no pins", routes.length(0), GlobalRoutes.NONE);
        routes.pin(0, 0, 0);
        check.same("one pin", routes.length(0), GlobalRoutes.NONE);
        routes.pin(0, 1, 0);
        check.same("two pins", routes.length(0), GlobalRoutes.NONE);
    }

    static void promise9_noneWhenTheRouteIsGone(Check check) {
        GlobalRoutes routes = Made.withNet(3, 3, 1, 0, 0, 1, 0);
        routes.lead(0);
        routes.rip(0);
        check.same("behind rip", routes.length(0), GlobalRoutes.NONE);
        routes.lead(0);
        routes.pin(0, 2, 2);
        check.same("behind pin", routes.length(0), GlobalRoutes.NONE);
    }

    static void promise9_theShortestRouteHasOneBorder(Check check) {
        GlobalRoutes routes = Made.withNet(2, 2, 0, 0, 0, 0, 1);
        routes.lead(0);
        check.same("length", routes.length(0), 1);
    }

    static void promise9_aLongRouteOfFivePins(Check check) {
        GlobalRoutes routes = Made.withNet(8, 8, 1, 0, 0, 7, 0, 7, 7, 0, 7);
        routes.lead(0);
        check.same("four corners", routes.length(0), 21);
        routes.pin(0, 3, 3);
        routes.lead(0);
        check.same("and the middle", routes.length(0), 24);
    }

    static void promise9_bordersAreCountedAndNotTheirCosts(Check check) {
        GlobalRoutes routes = Made.withNet(3, 2, 0, 0, 0, 2, 0);
        check.same("cost", routes.lead(0), 10);
        check.same("length", routes.length(0), 2);
    }

    static void promise10_noSuchNet(Check check) {
        refused(check, "least(6)", INDEX, routes -> routes.least(6));
        for (int net : Made.FAR_OFF) {
            refused(check, "least(" + net + ")", INDEX, routes -> routes.least(net));
        }
    }

    static void promise10_zeroWithFewerPinsThanTwo(Check check) {
        GlobalRoutes routes = new GlobalRoutes(8, 8, 1);
        routes.net();
        check.same("no pins", routes.least(0), 0);
        routes.pin(0, 7, 7);
        check.same("one pin", routes.least(0), 0);
    }

    /** What is left of a net asked before must not tell in the next. */
    static void promise10_zeroBehindALargerNet(Check check) {
        GlobalRoutes routes = Made.withNet(8, 8, 1, 0, 0, 7, 0, 0, 7, 7, 7, 3, 3);
        Made.addNet(routes, 5, 5);
        Made.addNet(routes, 5, 5, 5, 4);
        check.same("five pins", routes.least(0), 21);
        check.same("one pin", routes.least(1), 0);
        check.same("two pins", routes.least(2), 1);
        check.same("five pins again", routes.least(0), 21);
    }

    static void promise10_oneForNeighbours(Check check) {
        check.same("to the right", Made.withNet(2, 2, 0, 0, 0, 1, 0).least(0), 1);
        check.same("down", Made.withNet(2, 2, 0, 1, 0, 1, 1).least(0), 1);
    }

    static void promise10_noBorderFromARowsEndToTheNextRow(Check check) {
        check.same("least", Made.withNet(8, 2, 1, 7, 0, 0, 1).least(0), 8);
    }

    static void promise10_acrossTheLargestGrid(Check check) {
        check.same("one way", Made.withNet(8, 8, 1, 0, 0, 7, 7).least(0), 14);
        check.same("the other way", Made.withNet(8, 8, 1, 7, 0, 0, 7).least(0), 14);
    }

    static void promise10_allCellsOfTheSmallestGrid(Check check) {
        check.same("least", Made.withNet(2, 2, 0, 0, 0, 1, 0, 0, 1, 1, 1).least(0), 3);
    }

    static void promise10_lessThanByWaysFromPinToPin(Check check) {
        check.same("three pins", Made.withNet(5, 5, 1, 2, 0, 0, 4, 4, 4).least(0), 8);
        check.same("four pins", Made.withNet(5, 5, 1, 2, 0, 0, 2, 4, 2, 2, 4).least(0), 8);
        check.same("five pins", Made.withNet(7, 7, 1, 3, 3, 0, 0, 6, 0, 0, 6, 6, 6).least(0), 18);
    }

    /** As an H it branches at (0, 2) and (7, 2), which are no pins; as an H on its side likewise. */
    static void promise10_fivePinsWithTwoBranchesBetween(Check check) {
        check.same("H", Made.withNet(8, 5, 1, 0, 0, 0, 4, 7, 0, 7, 4, 3, 2).least(0), 15);
        check.same("on its side", Made.withNet(5, 8, 1, 0, 0, 4, 0, 0, 7, 4, 7, 2, 3).least(0), 15);
    }

    static void promise10_notByTheRouteThatLeadFinds(Check check) {
        GlobalRoutes routes = Made.withNet(5, 5, 1, 2, 2, 4, 1, 4, 3);
        check.same("lead", routes.lead(0), 5);
        check.same("least", routes.least(0), 4);
    }

    static void promise10_whateverCostsCapacitiesAndOtherNetsAre(Check check) {
        GlobalRoutes routes = Made.withNet(3, 3, 20, 0, 0, 2, 0);
        check.same("room", routes.least(0), 2);
        routes.capacity(0, 0, false, 0);
        routes.capacity(1, 0, false, 0);
        Made.addNet(routes, 0, 0, 2, 0);
        routes.run(10);
        check.same("round what has no room", routes.length(0), 4);
        check.same("least with a route", routes.least(0), 2);
        routes.rip(0);
        check.same("least without", routes.least(0), 2);
    }

    static void promise10_asksAndLeavesAll(Check check) {
        leavesAll(check, "least(3)", routes -> routes.least(3));
    }

    private static void noHas(Check check, int net, int x, int y, boolean down) {
        refused(check, "has(" + net + ", " + x + ", " + y + ", " + down + ")", INDEX,
                routes -> routes.has(net, x, y, down));
    }

    static void promise11_noSuchNet(Check check) {
        noHas(check, 6, 0, 0, true);
        for (int net : Made.FAR_OFF) {
            noHas(check, net, 0, 0, false);
        }
    }

    static void promise11_noBorderToTheRightOfTheLastColumn(Check check) {
        for (int y = 0; y < 2; y++) {
            noHas(check, 0, 3, y, false);
        }
    }

    static void promise11_noBorderDownFromTheLastRow(Check check) {
        for (int x = 0; x < 4; x++) {
            noHas(check, 0, x, 1, true);
        }
    }

    static void promise11_noBorderOfACellOutsideTheGrid(Check check) {
        for (int[] cell : Made.OUTSIDE) {
            noHas(check, 0, cell[0], cell[1], false);
            noHas(check, 0, cell[0], cell[1], true);
        }
    }

    static void promise11_noSuchBorderForANetWithoutARoute(Check check) {
        noHas(check, 4, 3, 0, false);
        noHas(check, 5, 0, 1, true);
    }

    static void promise11_neitherNetNorBorder(Check check) {
        noHas(check, 6, 3, 0, false);
        noHas(check, -1, -1, -1, true);
    }

    static void promise11_noBorderWithoutARoute(Check check) {
        GlobalRoutes routes = Made.busy();
        for (int x = 0; x < 4; x++) {
            check.same("two pins", routes.has(4, x, 0, true), false);
            check.same("one pin", routes.has(5, x, 0, true), false);
        }
    }

    static void promise11_noBorderOfARouteThatIsGone(Check check) {
        GlobalRoutes routes = Made.withNet(2, 2, 1, 0, 0, 1, 0);
        routes.lead(0);
        check.same("led", routes.has(0, 0, 0, false), true);
        routes.rip(0);
        check.same("ripped", routes.has(0, 0, 0, false), false);
        routes.lead(0);
        routes.pin(0, 1, 1);
        check.same("pinned", routes.has(0, 0, 0, false), false);
        routes.capacity(0, 0, false, 0);
        routes.capacity(1, 0, true, 20);
        routes.lead(0);
        check.same("led another way", routes.has(0, 0, 0, false), false);
    }

    static void promise11_noBorderOfAnotherNetsRoute(Check check) {
        GlobalRoutes routes = Made.withNet(2, 2, 1, 0, 0, 1, 0);
        Made.addNet(routes, 0, 1, 1, 1);
        routes.lead(0);
        routes.lead(1);
        check.same("upper border, net 0", routes.has(0, 0, 0, false), true);
        check.same("upper border, net 1", routes.has(1, 0, 0, false), false);
        check.same("lower border, net 0", routes.has(0, 0, 1, false), false);
        check.same("lower border, net 1", routes.has(1, 0, 1, false), true);
    }

    static void promise11_theLastBordersOfTheLargestGrid(Check check) {
        GlobalRoutes routes = Made.withNet(8, 8, 1, 7, 6, 7, 7, 6, 7);
        routes.lead(0);
        check.same("down", routes.has(0, 7, 6, true), true);
        check.same("to the right", routes.has(0, 6, 7, false), true);
        check.same("beside", routes.has(0, 6, 6, true), false);
    }

    private static void noBorder(Check check, int x, int y, boolean down, int what) {
        refused(check, "border(" + x + ", " + y + ", " + down + ", " + what + ")", INDEX,
                routes -> routes.border(x, y, down, what));
    }

    static void promise12_noBorderToTheRightOfTheLastColumn(Check check) {
        for (int what = 0; what < 4; what++) {
            noBorder(check, 3, 0, false, what);
            noBorder(check, 3, 1, false, what);
        }
    }

    static void promise12_noBorderDownFromTheLastRow(Check check) {
        for (int what = 0; what < 4; what++) {
            for (int x = 0; x < 4; x++) {
                noBorder(check, x, 1, true, what);
            }
        }
    }

    static void promise12_noBorderOfACellOutsideTheGrid(Check check) {
        for (int[] cell : Made.OUTSIDE) {
            for (int what = 0; what < 4; what++) {
                noBorder(check, cell[0], cell[1], false, what);
                noBorder(check, cell[0], cell[1], true, what);
            }
        }
    }

    static void promise12_whatIsNotToldIsRefused(Check check) {
        for (int what : new int[] {-1, 4, 5, Integer.MIN_VALUE, Integer.MAX_VALUE}) {
            refused(check, "border(0, 0, false, " + what + ")", ARGUMENT,
                    routes -> routes.border(0, 0, false, what));
            refused(check, "border(3, 0, true, " + what + ")", ARGUMENT,
                    routes -> routes.border(3, 0, true, what));
        }
    }

    static void promise12_noSuchBorderComesBeforeWhatIsNotTold(Check check) {
        for (int what : new int[] {-1, 4, Integer.MIN_VALUE, Integer.MAX_VALUE}) {
            noBorder(check, 3, 0, false, what);
            noBorder(check, 0, 1, true, what);
            noBorder(check, 0, -1, true, what);
        }
    }

    static void promise12_useFromNoneToTwelve(Check check) {
        GlobalRoutes routes = Made.elevenOnOneCorner();
        check.same("none", routes.border(1, 0, true, 0), 0);
        check.same("eleven", routes.border(0, 0, false, 0), 11);
        routes.lead(11);
        check.same("twelve", routes.border(0, 0, false, 0), 12);
    }

    static void promise12_justFullIsNotOver(Check check) {
        GlobalRoutes routes = Made.crowded();
        routes.capacity(0, 0, false, 2);
        check.same("use", routes.border(0, 0, false, 0), 2);
        check.same("over", routes.border(0, 0, false, 3), 0);
    }

    static void promise12_oneAboveIsOverByOne(Check check) {
        check.same("over", Made.crowded().border(0, 0, false, 3), 1);
    }

    static void promise12_overIsNeverBelowZero(Check check) {
        check.same("over", new GlobalRoutes(2, 2, 20).border(0, 0, true, 3), 0);
    }

    static void promise12_overByTwelveAndByEachLess(Check check) {
        GlobalRoutes routes = Made.elevenOnOneCorner();
        routes.lead(11);
        for (int c = 0; c <= 20; c++) {
            routes.capacity(0, 0, false, c);
            check.same("room for " + c, routes.border(0, 0, false, 3), c < 12 ? 12 - c : 0);
        }
    }

    static void promise12_noRoomAndNoUseIsNotOver(Check check) {
        check.same("over", new GlobalRoutes(2, 2, 0).border(0, 0, true, 3), 0);
    }

    private static void noLine(Check check, boolean rows, int k, int what) {
        refused(check, "line(" + rows + ", " + k + ", " + what + ")", INDEX,
                routes -> routes.line(rows, k, what));
    }

    static void promise13_noLineBehindTheLastColumn(Check check) {
        for (int what = 0; what < 3; what++) {
            noLine(check, false, 3, what);
            noLine(check, false, 4, what);
        }
    }

    static void promise13_noLineBehindTheLastRow(Check check) {
        for (int what = 0; what < 3; what++) {
            noLine(check, true, 1, what);
            noLine(check, true, 2, what);
        }
    }

    static void promise13_noLineFarOff(Check check) {
        for (int k : Made.FAR_OFF) {
            noLine(check, false, k, 0);
            noLine(check, true, k, 0);
        }
    }

    static void promise13_columnsGoByWidthAndRowsByHeight(Check check) {
        for (int width = 2; width <= 8; width++) {
            for (int height = 2; height <= 8; height++) {
                GlobalRoutes routes = new GlobalRoutes(width, height, 1);
                String grid = width + " by " + height;
                int column = width - 1;
                int row = height - 1;
                check.same(grid + " last line of columns", routes.line(false, column - 1, 1), height);
                check.index(grid + " one more of columns", () -> routes.line(false, column, 1));
                check.same(grid + " last line of rows", routes.line(true, row - 1, 1), width);
                check.index(grid + " one more of rows", () -> routes.line(true, row, 1));
            }
        }
    }

    static void promise13_whatIsNotToldIsRefused(Check check) {
        for (int what : new int[] {-1, 3, 4, Integer.MIN_VALUE, Integer.MAX_VALUE}) {
            refused(check, "line(false, 2, " + what + ")", ARGUMENT, routes -> routes.line(false, 2, what));
            refused(check, "line(true, 0, " + what + ")", ARGUMENT, routes -> routes.line(true, 0, what));
        }
    }

    static void promise13_noSuchLineComesBeforeWhatIsNotTold(Check check) {
        for (int what : new int[] {-1, 3, Integer.MIN_VALUE, Integer.MAX_VALUE}) {
            noLine(check, false, 3, what);
            noLine(check, true, 1, what);
            noLine(check, true, -1, what);
        }
    }

    static void promise13_pinsJustOnBothSides(Check check) {
        GlobalRoutes columns = Made.withNet(4, 4, 1, 1, 0, 2, 0);
        GlobalRoutes rows = Made.withNet(4, 4, 1, 0, 1, 0, 2);
        for (int k = 0; k < 3; k++) {
            check.same("columns, line " + k, columns.line(false, k, 0), k == 1 ? 1 : 0);
            check.same("columns, line of rows " + k, columns.line(true, k, 0), 0);
            check.same("rows, line " + k, rows.line(true, k, 0), k == 1 ? 1 : 0);
            check.same("rows, line of columns " + k, rows.line(false, k, 0), 0);
        }
    }

    static void promise13_pinsInOppositeCornersAreOnBothSidesOfAllLines(Check check) {
        GlobalRoutes routes = Made.withNet(8, 8, 1, 7, 0, 0, 7);
        for (int k = 0; k < 7; k++) {
            check.same("line of columns " + k, routes.line(false, k, 0), 1);
            check.same("line of rows " + k, routes.line(true, k, 0), 1);
        }
    }

    static void promise13_fewerPinsThanTwoAreOnNoTwoSides(Check check) {
        GlobalRoutes routes = Made.withNet(2, 2, 1);
        Made.addNet(routes, 0, 0);
        Made.addNet(routes, 1, 1);
        check.same("line of columns", routes.line(false, 0, 0), 0);
        check.same("line of rows", routes.line(true, 0, 0), 0);
    }

    static void promise13_aNetCountsOnceHoweverManyPinsItHas(Check check) {
        GlobalRoutes routes = Made.withNet(3, 2, 1, 0, 0, 1, 0, 2, 0, 0, 1, 1, 1);
        check.same("line of columns 0", routes.line(false, 0, 0), 1);
        check.same("line of columns 1", routes.line(false, 1, 0), 1);
        check.same("line of rows 0", routes.line(true, 0, 0), 1);
    }

    static void promise13_allTwelveNets(Check check) {
        check.same("line of columns", Made.fullOfNets().line(false, 0, 0), 12);
        check.same("line of rows", Made.fullOfNets().line(true, 0, 0), 6);
    }

    static void promise13_pinsCountAndNotRoutes(Check check) {
        GlobalRoutes routes = Made.withNet(2, 2, 20, 0, 0, 1, 0);
        routes.capacity(0, 0, false, 0);
        check.same("without a route, columns", routes.line(false, 0, 0), 1);
        routes.lead(0);
        check.same("the route goes over the line of rows", routes.line(true, 0, 2), 2);
        check.same("its pins are on one side of it", routes.line(true, 0, 0), 0);
        check.same("with a route, columns", routes.line(false, 0, 0), 1);
    }

    static void promise13_noCapacityAndTheMost(Check check) {
        check.same("none", new GlobalRoutes(8, 8, 0).line(true, 6, 1), 0);
        check.same("the most, columns", new GlobalRoutes(8, 8, 20).line(false, 6, 1), 160);
        check.same("the most, rows", new GlobalRoutes(8, 8, 20).line(true, 6, 1), 160);
    }

    static void promise13_firstAndLastBorderBelongToTheLine(Check check) {
        GlobalRoutes routes = new GlobalRoutes(4, 3, 0);
        routes.capacity(2, 0, false, 3);
        routes.capacity(2, 2, false, 5);
        routes.capacity(0, 1, true, 7);
        routes.capacity(3, 1, true, 11);
        check.same("line of columns 2", routes.line(false, 2, 1), 8);
        check.same("line of rows 1", routes.line(true, 1, 1), 18);
        check.same("line of columns 1", routes.line(false, 1, 1), 0);
        check.same("line of rows 0", routes.line(true, 0, 1), 0);
    }

    static void promise13_noUseAndTheMost(Check check) {
        GlobalRoutes routes = Made.withNet(2, 2, 20);
        check.same("none", routes.line(false, 0, 2), 0);
        for (int net = 1; net < 12; net++) {
            Made.addNet(routes, 0, 0, 1, 0);
            routes.lead(net);
        }
        routes.pin(0, 0, 1);
        routes.pin(0, 1, 1);
        routes.lead(0);
        check.same("eleven above and one below", routes.line(false, 0, 2), 12);
        check.same("none over the line of rows", routes.line(true, 0, 2), 0);
        routes.rip(0);
        check.same("one less", routes.line(false, 0, 2), 11);
    }

    static void promise14_whatIsNotToldIsRefused(Check check) {
        for (int what : new int[] {-1, 8, 9, Integer.MIN_VALUE, Integer.MAX_VALUE}) {
            refused(check, "told(" + what + ")", ARGUMENT, routes -> routes.told(what));
        }
    }

    static void promise14_ofANewObject(Check check) {
        GlobalRoutes routes = new GlobalRoutes(7, 3, 0);
        int[] due = {0, 0, 0, 0, 0, 7, 3, 0};
        for (int what = 0; what < 8; what++) {
            check.same("told(" + what + ")", routes.told(what), due[what]);
        }
    }

    static void promise14_fromNoNetToTwelve(Check check) {
        GlobalRoutes routes = new GlobalRoutes(2, 2, 1);
        for (int nets = 0; nets < 12; nets++) {
            check.same("nets", routes.told(0), nets);
            routes.net();
        }
        check.same("nets", routes.told(0), 12);
        check.state("net()", routes::net);
        check.same("nets behind a refused one", routes.told(0), 12);
    }

    static void promise14_fromNoRouteToTwelveAndBack(Check check) {
        GlobalRoutes routes = Made.elevenOnOneCorner();
        check.same("eleven", routes.told(1), 11);
        routes.lead(11);
        check.same("twelve", routes.told(1), 12);
        for (int net = 0; net < 12; net++) {
            routes.rip(net);
            check.same("behind rip(" + net + ")", routes.told(1), 11 - net);
        }
        check.same("borders of no routes", routes.told(2), 0);
    }

    static void promise14_aBorderOfTwoRoutesCountsTwice(Check check) {
        check.same("borders of all routes", Made.crowded().told(2), 2);
    }

    static void promise14_justFullIsNotOver(Check check) {
        GlobalRoutes routes = Made.crowded();
        routes.capacity(0, 0, false, 2);
        check.same("borders that are over", routes.told(3), 0);
        check.same("by how many", routes.told(4), 0);
    }

    static void promise14_aBorderCountsOnceHoweverMuchItIsOver(Check check) {
        GlobalRoutes routes = Made.elevenOnOneCorner();
        routes.capacity(0, 0, false, 0);
        routes.capacity(0, 0, true, 9);
        check.same("borders that are over", routes.told(3), 2);
        check.same("by how many", routes.told(4), 13);
    }

    /** Room that other borders have left takes nothing off. */
    static void promise14_onlyWhatIsAboveIsCounted(Check check) {
        GlobalRoutes routes = Made.crowded();
        routes.capacity(0, 1, false, 20);
        check.same("borders that are over", routes.told(3), 1);
        check.same("by how many", routes.told(4), 1);
    }

    static void promise14_allBordersOfTheSmallestGridOver(Check check) {
        GlobalRoutes routes = Made.withNet(2, 2, 20, 0, 0, 1, 0, 1, 1);
        Made.addNet(routes, 0, 0, 0, 1, 1, 1);
        routes.lead(0);
        routes.lead(1);
        check.same("none", routes.told(3), 0);
        for (int k = 0; k < 2; k++) {
            routes.capacity(0, k, false, 0);
            routes.capacity(k, 0, true, 0);
        }
        check.same("borders that are over", routes.told(3), 4);
        check.same("by how many", routes.told(4), 4);
    }

    static void promise14_widthAndHeightAreTheNearestThatMayBe(Check check) {
        GlobalRoutes routes = new GlobalRoutes(1, 9, 1);
        check.same("width", routes.told(5), 2);
        check.same("height", routes.told(6), 8);
    }

    static void promise14_roundsOfAllRunsAndOfNoLead(Check check) {
        GlobalRoutes routes = Made.withNet(2, 2, 0, 0, 0, 1, 0);
        routes.lead(0);
        check.same("lead is no round", routes.told(7), 0);
        routes.run(0);
        check.same("run(0)", routes.told(7), 0);
        routes.run(10);
        check.same("run(10)", routes.told(7), 10);
        routes.run(1);
        check.same("run(1)", routes.told(7), 11);
        check.argument("run(11)", () -> routes.run(11));
        check.same("a refused run", routes.told(7), 11);
    }

    static void promise14_forgetAndRipLeaveTheRounds(Check check) {
        GlobalRoutes routes = Made.withNet(2, 2, 0, 0, 0, 1, 0);
        routes.run(3);
        routes.forget();
        routes.rip(0);
        routes.net();
        check.same("rounds", routes.told(7), 3);
    }

    static void promise14_roundsThatWereNotNeededDoNotCount(Check check) {
        GlobalRoutes routes = Made.withNet(2, 2, 1, 0, 0, 1, 0);
        check.same("run(10)", routes.run(10), 1);
        check.same("rounds", routes.told(7), 1);
    }
}

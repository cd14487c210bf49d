import java.util.function.Consumer;

/** The boundary cases of promises 5 to 8: lead, rip, run, forget. */
public final class EdgesOfLeadingTest {
    public static void main(String[] args) {
        Cases.run(EdgesOfLeadingTest.class);
    }

    private static void noLead(Check check, Class<? extends RuntimeException> due, int net) {
        Seen.refused(check, "lead(" + net + ")", due, Made::busy, routes -> routes.lead(net));
    }

    /** The net's route has these borders, and no others: x, y and 1 for down or 0, each. */
    private static void route(Check check, GlobalRoutes routes, int net, int... borders) {
        for (int i = 0; i < borders.length; i += 3) {
            check.same("border " + borders[i] + ", " + borders[i + 1] + (borders[i + 2] == 1 ? " down" : " right"),
                    routes.has(net, borders[i], borders[i + 1], borders[i + 2] == 1), true);
        }
        check.same("length", routes.length(net), borders.length / 3);
    }

    static void promise5_aNetWithoutPinsIsRefused(Check check) {
        Seen.refused(check, "lead(0)", IllegalStateException.class, () -> Made.withNet(3, 2, 1),
                routes -> routes.lead(0));
    }

    static void promise5_aNetWithOnePinIsRefused(Check check) {
        noLead(check, IllegalStateException.class, 5);
    }

    static void promise5_aNetWithTwoPinsIsLed(Check check) {
        GlobalRoutes routes = Made.withNet(3, 2, 1, 0, 0, 0, 1);
        check.same("lead", routes.lead(0), 1);
        route(check, routes, 0, 0, 0, 1);
    }

    static void promise5_aNetWithFivePinsIsLed(Check check) {
        GlobalRoutes routes = Made.withNet(8, 2, 1, 0, 0, 7, 0, 3, 0, 5, 0, 1, 0);
        check.same("lead", routes.lead(0), 7);
        route(check, routes, 0, 0, 0, 0, 1, 0, 0, 2, 0, 0, 3, 0, 0, 4, 0, 0, 5, 0, 0, 6, 0, 0);
    }

    static void promise5_noSuchNet(Check check) {
        noLead(check, IndexOutOfBoundsException.class, 6);
        for (int net : Made.FAR_OFF) {
            noLead(check, IndexOutOfBoundsException.class, net);
        }
    }

    static void promise5_allCellsOfTheSmallestGridArePins(Check check) {
        GlobalRoutes routes = Made.withNet(2, 2, 1, 0, 0, 1, 0, 0, 1, 1, 1);
        check.same("lead", routes.lead(0), 3);
        route(check, routes, 0, 0, 0, 0, 0, 0, 1, 1, 0, 1);
    }

    static void promise5_fromCornerToCornerOfTheLargestGrid(Check check) {
        GlobalRoutes routes = Made.withNet(8, 8, 1, 0, 7, 7, 0);
        check.same("lead", routes.lead(0), 14);
        check.same("length", routes.length(0), 14);
    }

    /** The last cell of a row and the first of the next have numbers next to each other. */
    static void promise5_noBorderFromARowsEndToTheNextRow(Check check) {
        for (int width = 3; width <= 8; width++) {
            GlobalRoutes routes = Made.withNet(width, 3, 1, width - 1, 0, 0, 1);
            check.same("width " + width, routes.lead(0), width);
        }
    }

    static void promise5_noBorderFromTheLastRowToTheFirst(Check check) {
        GlobalRoutes rows = Made.withNet(3, 8, 1, 1, 0, 1, 7);
        check.same("first and last row", rows.lead(0), 7);
        GlobalRoutes columns = Made.withNet(8, 3, 1, 0, 1, 7, 1);
        check.same("first and last column", columns.lead(0), 7);
    }

    static void promise5_itsOldRouteGoesBeforeCostsAreTaken(Check check) {
        GlobalRoutes routes = Made.withNet(2, 2, 1, 0, 0, 1, 0);
        for (int turn = 0; turn < 3; turn++) {
            check.same("lead", routes.lead(0), 1);
            check.same("use", routes.border(0, 0, false, 0), 1);
            route(check, routes, 0, 0, 0, 0);
        }
    }

    static void promise5_itsOwnTreeMakesNoBorderDearer(Check check) {
        GlobalRoutes routes = Made.withNet(4, 2, 0, 0, 0, 1, 0, 2, 0, 3, 0);
        check.same("three borders without room", routes.lead(0), 15);
    }

    /** Eleven nets are there already: with room for 12 it is just not too full. */
    static void promise5_costGrowsByFourForEachAboveCapacity(Check check) {
        GlobalRoutes routes = Made.elevenOnOneCorner();
        for (int c = 0; c <= 20; c++) {
            routes.capacity(0, 0, false, c);
            routes.capacity(0, 0, true, c);
            check.same("room for " + c, routes.lead(11), c < 12 ? 1 + 4 * (12 - c) : 1);
            route(check, routes, 11, 0, 0, 0);
        }
    }

    static void promise5_theLastPlaceCostsOneAndTheNextFive(Check check) {
        GlobalRoutes routes = Made.withNet(2, 2, 0, 0, 0, 1, 0);
        routes.capacity(0, 0, false, 1);
        check.same("the last place", routes.lead(0), 1);
        Made.addNet(routes, 0, 0, 1, 0);
        check.same("one too many", routes.lead(1), 5);
        Made.addNet(routes, 0, 0, 1, 0);
        check.same("two too many", routes.lead(2), 9);
    }

    static void promise5_noRoomAtAllCostsFive(Check check) {
        check.same("lead", Made.withNet(2, 2, 0, 0, 0, 0, 1).lead(0), 5);
    }

    static void promise5_historyCosts(Check check) {
        GlobalRoutes routes = Made.withNet(2, 2, 0, 0, 0, 1, 0);
        check.same("without", routes.lead(0), 5);
        routes.run(3);
        check.same("3", routes.lead(0), 8);
        routes.capacity(0, 0, false, 20);
        check.same("3, and room", routes.lead(0), 4);
    }

    /** A tree over all four cells leaves out the dearest border of the four. */
    static void promise5_theHistoryOfAllCallsThatMayBeCosts(Check check) {
        GlobalRoutes routes = Made.withNet(2, 2, 0, 0, 0, 1, 0, 0, 1, 1, 1);
        for (int call = 6; call <= 507; call++) {
            routes.run(10);
        }
        long[] histories = {routes.border(0, 0, false, 2), routes.border(0, 0, true, 2),
                routes.border(0, 1, false, 2), routes.border(1, 0, true, 2)};
        long sum = histories[0] + histories[1] + histories[2] + histories[3];
        long most = Math.max(Math.max(histories[0], histories[1]), Math.max(histories[2], histories[3]));
        check.same("three borders in each of 5020 rounds", sum, 15060);
        check.same("call 512, lead", routes.lead(0), sum - most + 15);
    }

    static void promise5_aWayRoundIsTakenOnlyIfItIsLess(Check check) {
        GlobalRoutes routes = Made.withNet(2, 2, 20, 0, 1, 1, 1);
        routes.capacity(0, 1, false, 0);
        check.same("3 against 5", routes.lead(0), 3);
        routes.capacity(0, 0, false, 0);
        check.same("7 against 5", routes.lead(0), 5);
        route(check, routes, 0, 0, 1, 0);
    }

    static void promise5_ofSeveralNearestPinsTheFirstIsJoined(Check check) {
        GlobalRoutes routes = Made.withNet(5, 5, 1, 2, 2, 4, 3, 4, 1);
        check.same("(4, 3) first", routes.lead(0), 4);
        route(check, routes, 0, 4, 2, 1, 3, 2, 0, 2, 2, 0, 4, 1, 1);
        GlobalRoutes turned = Made.withNet(5, 5, 1, 2, 2, 4, 1, 4, 3);
        check.same("(4, 1) first", turned.lead(0), 5);
        route(check, turned, 0, 3, 1, 0, 2, 1, 0, 2, 1, 1, 4, 1, 1, 4, 2, 1);
    }

    static void promise5_aNearerPinComesBeforeAnEarlierOne(Check check) {
        GlobalRoutes routes = Made.withNet(5, 3, 1, 0, 0, 4, 2, 0, 2);
        check.same("lead", routes.lead(0), 6);
        route(check, routes, 0, 0, 0, 1, 0, 1, 1, 0, 2, 0, 1, 2, 0, 2, 2, 0, 3, 2, 0);
    }

    static void promise5_aPinIsJoinedToTheMiddleOfAWay(Check check) {
        GlobalRoutes routes = Made.withNet(5, 3, 1, 0, 0, 4, 0, 2, 2);
        check.same("lead", routes.lead(0), 6);
        route(check, routes, 0, 0, 0, 0, 1, 0, 0, 2, 0, 0, 3, 0, 0, 2, 0, 1, 2, 1, 1);
    }

    /** Once (5, 0) is joined, (3, 2) is nearer to the middle of the way than (4, 3), and goes first. */
    static void promise5_distanceIsToAllCellsOfTheTree(Check check) {
        GlobalRoutes routes = Made.withNet(6, 4, 1, 0, 0, 5, 0, 4, 3, 3, 2);
        check.same("lead", routes.lead(0), 9);
        route(check, routes, 0, 0, 0, 0, 1, 0, 0, 2, 0, 0, 3, 0, 0, 4, 0, 0,
                3, 0, 1, 3, 1, 1, 4, 2, 1, 3, 2, 0);
    }

    static void promise5_upComesBeforeLeft(Check check) {
        GlobalRoutes routes = Made.withNet(3, 3, 1, 0, 0, 2, 2);
        routes.lead(0);
        route(check, routes, 0, 2, 1, 1, 2, 0, 1, 1, 0, 0, 0, 0, 0);
    }

    static void promise5_upComesBeforeRight(Check check) {
        GlobalRoutes routes = Made.withNet(3, 3, 1, 2, 0, 0, 2);
        routes.lead(0);
        route(check, routes, 0, 0, 1, 1, 0, 0, 1, 0, 0, 0, 1, 0, 0);
    }

    static void promise5_leftComesBeforeDown(Check check) {
        GlobalRoutes routes = Made.withNet(3, 3, 1, 0, 2, 2, 0);
        routes.lead(0);
        route(check, routes, 0, 1, 0, 0, 0, 0, 0, 0, 0, 1, 0, 1, 1);
    }

    static void promise5_rightComesBeforeDown(Check check) {
        GlobalRoutes routes = Made.withNet(3, 3, 1, 2, 2, 0, 0);
        routes.lead(0);
        route(check, routes, 0, 0, 0, 0, 1, 0, 0, 2, 0, 1, 2, 1, 1);
    }

    /** The borders of (1, 0) are dear, so its tree is on three sides of it when it is joined. */
    static void promise5_leftComesBeforeRight(Check check) {
        GlobalRoutes routes = Made.withNet(3, 2, 20, 0, 0, 2, 0, 1, 0);
        routes.capacity(0, 0, false, 0);
        routes.capacity(1, 0, false, 0);
        routes.capacity(1, 0, true, 0);
        check.same("lead", routes.lead(0), 9);
        route(check, routes, 0, 0, 0, 1, 0, 1, 0, 1, 1, 0, 2, 0, 1, 0, 0, 0);
    }

    /** The borders of (0, 1) are dear, so its tree is on three sides of it when it is joined. */
    static void promise5_upComesBeforeDown(Check check) {
        GlobalRoutes routes = Made.withNet(2, 3, 20, 0, 0, 0, 2, 0, 1);
        routes.capacity(0, 0, true, 0);
        routes.capacity(0, 1, true, 0);
        routes.capacity(0, 1, false, 0);
        check.same("lead", routes.lead(0), 9);
        route(check, routes, 0, 0, 0, 0, 1, 0, 1, 1, 1, 1, 0, 2, 0, 0, 0, 1);
    }

    static void promise5_theWayGoesFromTheLaterPinToPinZero(Check check) {
        GlobalRoutes routes = Made.withNet(2, 2, 1, 0, 0, 1, 1);
        routes.lead(0);
        route(check, routes, 0, 1, 0, 1, 0, 0, 0);
        GlobalRoutes turned = Made.withNet(2, 2, 1, 1, 0, 0, 1);
        turned.lead(0);
        route(check, turned, 0, 0, 0, 1, 0, 0, 0);
    }

    private static void noRip(Check check, int net) {
        Seen.refused(check, "rip(" + net + ")", IndexOutOfBoundsException.class, Made::busy,
                routes -> routes.rip(net));
    }

    static void promise6_noSuchNet(Check check) {
        noRip(check, 6);
        for (int net : Made.FAR_OFF) {
            noRip(check, net);
        }
    }

    static void promise6_noneWithoutARoute(Check check) {
        GlobalRoutes routes = Made.busy();
        String before = Seen.of(routes);
        check.same("two pins", routes.rip(4), GlobalRoutes.NONE);
        check.same("one pin", routes.rip(5), GlobalRoutes.NONE);
        check.sameText("the object", Seen.of(routes), before);
        check.same("no pins", routes.rip(routes.net()), GlobalRoutes.NONE);
    }

    static void promise6_noneTheSecondTime(Check check) {
        GlobalRoutes routes = Made.busy();
        check.same("once", routes.rip(3), 6);
        check.same("twice", routes.rip(3), GlobalRoutes.NONE);
        check.same("uses", routes.told(2), 10);
    }

    static void promise6_noneWhenAPinTookTheRoute(Check check) {
        GlobalRoutes routes = Made.withNet(3, 3, 1, 0, 0, 0, 2);
        routes.lead(0);
        routes.pin(0, 2, 2);
        check.same("rip", routes.rip(0), GlobalRoutes.NONE);
    }

    static void promise6_theShortestRouteHasOneBorder(Check check) {
        GlobalRoutes routes = Made.withNet(2, 2, 0, 0, 0, 1, 0);
        routes.lead(0);
        check.same("rip", routes.rip(0), 1);
    }

    static void promise6_pinsHistoryAndOtherRoutesStay(Check check) {
        GlobalRoutes routes = Made.withNet(2, 2, 0, 0, 0, 1, 0);
        Made.addNet(routes, 0, 0, 1, 0);
        routes.run(1);
        check.same("rip", routes.rip(0), 1);
        check.same("the other route", routes.length(1), 1);
        check.same("use", routes.border(0, 0, false, 0), 1);
        check.same("history", routes.border(0, 0, false, 2), 1);
        check.same("led again", routes.lead(0), 10);
    }

    private static void noRun(Check check, int rounds) {
        Consumer<GlobalRoutes> run = routes -> routes.run(rounds);
        Seen.refused(check, "run(" + rounds + ")", IllegalArgumentException.class, Made::busy, run);
        Seen.refused(check, "run(" + rounds + ") with nothing to do", IllegalArgumentException.class,
                () -> new GlobalRoutes(2, 2, 1), run);
    }

    static void promise7_roundsBelowZeroAreRefused(Check check) {
        noRun(check, -1);
        noRun(check, -10);
        noRun(check, Integer.MIN_VALUE);
    }

    static void promise7_roundsAboveTenAreRefused(Check check) {
        noRun(check, 11);
        noRun(check, 20);
        noRun(check, Integer.MAX_VALUE);
    }

    static void promise7_noRoundsChangeNothing(Check check) {
        GlobalRoutes routes = Made.busy();
        String before = Seen.of(routes);
        check.same("run(0)", routes.run(0), 0);
        check.sameText("the object", Seen.of(routes), before);
    }

    /** Without room there is no end, so there are as many rounds as may be. */
    static void promise7_eachNumberFromZeroToTenIsTaken(Check check) {
        GlobalRoutes routes = Made.withNet(2, 2, 0, 0, 0, 1, 0, 0, 1, 1, 1);
        int before = 0;
        for (int rounds = 0; rounds <= 10; rounds++) {
            check.same("run(" + rounds + ")", routes.run(rounds), rounds);
            before += rounds;
            check.same("rounds since the beginning", routes.told(7), before);
        }
        check.same("three borders are over in each", routes.forget(), 3 * 55);
    }

    private static void nothingToDo(Check check, GlobalRoutes routes) {
        String before = Seen.of(routes);
        for (int rounds = 0; rounds <= 10; rounds++) {
            check.same("run(" + rounds + ")", routes.run(rounds), 0);
        }
        check.sameText("the object", Seen.of(routes), before);
    }

    static void promise7_noRoundWithoutNets(Check check) {
        nothingToDo(check, new GlobalRoutes(2, 2, 0));
    }

    static void promise7_noRoundForNetsWithFewerPinsThanTwo(Check check) {
        GlobalRoutes routes = Made.withNet(2, 2, 0);
        Made.addNet(routes, 0, 0);
        nothingToDo(check, routes);
    }

    static void promise7_noRoundWhenAllIsDone(Check check) {
        GlobalRoutes routes = Made.withNet(3, 2, 1, 0, 0, 2, 0);
        Made.addNet(routes, 0, 1, 2, 1);
        routes.lead(0);
        routes.lead(1);
        nothingToDo(check, routes);
    }

    static void promise7_noRoundForABorderThatIsJustFull(Check check) {
        GlobalRoutes routes = Made.crowded();
        routes.capacity(0, 0, false, 2);
        check.same("use", routes.border(0, 0, false, 0), 2);
        nothingToDo(check, routes);
    }

    static void promise7_aRoundForABorderThatIsOverByOne(Check check) {
        GlobalRoutes routes = Made.crowded();
        check.same("run(10)", routes.run(10), 1);
        check.same("net 0 gave way", routes.length(0), 3);
        check.same("net 1 did not", routes.length(1), 1);
        check.same("rounds", routes.told(7), 1);
    }

    static void promise7_aRoundForANetWithoutARoute(Check check) {
        GlobalRoutes routes = Made.withNet(2, 2, 1);
        Made.addNet(routes, 0, 0);
        Made.addNet(routes, 0, 0, 1, 0);
        check.same("run(10)", routes.run(10), 1);
        check.same("no pins", routes.length(0), GlobalRoutes.NONE);
        check.same("one pin", routes.length(1), GlobalRoutes.NONE);
        check.same("two pins", routes.length(2), 1);
        check.same("run(10) again", routes.run(10), 0);
    }

    /** The end is looked at before each round, so the last round that may be is never looked behind. */
    static void promise7_theEndIsSeenBeforeTheNextRound(Check check) {
        GlobalRoutes once = Made.withNet(2, 2, 1, 0, 0, 1, 0);
        check.same("run(1)", once.run(1), 1);
        check.same("run(1) again", once.run(1), 0);
        GlobalRoutes twice = Made.withNet(2, 2, 1, 0, 0, 1, 0);
        check.same("run(2)", twice.run(2), 1);
        check.same("rounds", twice.told(7), 1);
    }

    static void promise7_netsWithFewerPinsThanTwoAreNotLed(Check check) {
        GlobalRoutes routes = Made.busy();
        routes.run(10);
        check.same("net 5", routes.length(5), GlobalRoutes.NONE);
        check.same("nets with routes", routes.told(1), 5);
    }

    static void promise7_aRouteThatIsNotOverStaysAsItIs(Check check) {
        GlobalRoutes routes = Made.withNet(3, 3, 1, 0, 0, 1, 0);
        routes.capacity(0, 0, false, 0);
        check.same("a way round", routes.lead(0), 3);
        routes.capacity(0, 0, false, 1);
        Made.addNet(routes, 2, 1, 2, 2);
        check.same("a round for the other", routes.run(10), 1);
        check.same("still the way round", routes.length(0), 3);
    }

    /** Net 0 gives way first; net 1, which would have a shorter way by now, is not over then. */
    static void promise7_aNetThatIsNoLongerOverAtItsTurnIsNotLed(Check check) {
        GlobalRoutes routes = Made.withNet(2, 2, 20, 0, 0, 0, 1);
        Made.addNet(routes, 0, 0, 1, 0);
        routes.capacity(0, 0, false, 0);
        check.same("net 1 goes round", routes.lead(1), 3);
        check.same("net 0", routes.lead(0), 1);
        routes.capacity(0, 0, true, 1);
        routes.capacity(0, 0, false, 20);
        check.same("run(10)", routes.run(10), 1);
        check.same("net 0 goes round", routes.length(0), 3);
        check.same("net 1 as it was", routes.length(1), 3);
    }

    /** Net 0 comes onto a full border, by which net 1 is over at its turn and takes another way. */
    static void promise7_aNetThatBecomesOverBeforeItsTurnIsLed(Check check) {
        GlobalRoutes routes = Made.withNet(2, 2, 20, 0, 0, 1, 0);
        Made.addNet(routes, 0, 1, 1, 0);
        routes.lead(1);
        route(check, routes, 1, 0, 0, 0, 0, 0, 1);
        routes.capacity(0, 0, false, 1);
        routes.capacity(0, 0, true, 1);
        check.same("run(10)", routes.run(10), 1);
        route(check, routes, 0, 0, 0, 0);
        route(check, routes, 1, 0, 1, 0, 1, 0, 1);
        check.same("over in between is no history", routes.forget(), 0);
    }

    static void promise7_historyGrowsByOneHoweverMuchABorderIsOver(Check check) {
        GlobalRoutes routes = Made.crowded();
        Made.addNet(routes, 0, 0, 1, 0);
        routes.capacity(0, 0, true, 0);
        routes.capacity(0, 1, false, 0);
        routes.capacity(1, 0, true, 0);
        check.same("run(1)", routes.run(1), 1);
        check.same("over", routes.border(0, 0, false, 3), 2);
        check.same("history", routes.border(0, 0, false, 2), 1);
        check.same("no other", routes.forget(), 1);
    }

    static void promise7_aBorderThatIsJustFullGetsNoHistory(Check check) {
        GlobalRoutes routes = Made.withNet(3, 2, 1, 0, 0, 1, 0);
        Made.addNet(routes, 2, 0, 2, 1);
        routes.capacity(2, 0, true, 0);
        routes.capacity(1, 0, false, 0);
        routes.capacity(1, 1, false, 0);
        check.same("run(1)", routes.run(1), 1);
        check.same("full", routes.border(0, 0, false, 0), 1);
        check.same("its history", routes.border(0, 0, false, 2), 0);
        check.same("over", routes.border(2, 0, true, 3), 1);
        check.same("its history", routes.border(2, 0, true, 2), 1);
        check.same("all history", routes.forget(), 1);
    }

    static void promise8_nothingToForget(Check check) {
        check.same("new", new GlobalRoutes(8, 8, 0).forget(), 0);
        GlobalRoutes led = Made.crowded();
        check.same("over, but without a round", led.forget(), 0);
        GlobalRoutes fine = Made.withNet(2, 2, 1, 0, 0, 1, 0);
        fine.run(10);
        check.same("a round, but nothing over", fine.forget(), 0);
    }

    static void promise8_aSecondTimeThereIsNothing(Check check) {
        GlobalRoutes routes = Made.busy();
        check.same("six borders for two rounds", routes.forget(), 12);
        check.same("again", routes.forget(), 0);
    }

    static void promise8_historyOfAllBordersTogether(Check check) {
        GlobalRoutes routes = Made.busy();
        long sum = 0;
        for (int x = 0; x < 4; x++) {
            sum += routes.border(x, 0, true, 2);
            for (int y = 0; y < 2 && x < 3; y++) {
                sum += routes.border(x, y, false, 2);
            }
        }
        check.same("forget", routes.forget(), sum);
        for (int x = 0; x < 4; x++) {
            check.same("down from " + x, routes.border(x, 0, true, 2), 0);
            for (int y = 0; y < 2 && x < 3; y++) {
                check.same("right of " + x + ", " + y, routes.border(x, y, false, 2), 0);
            }
        }
    }

    static void promise8_roundsRoutesAndNetsStay(Check check) {
        GlobalRoutes routes = Made.busy();
        String due = Seen.of(routes).replaceAll("(border [^:]*: \\d+ \\d+) \\d+", "$1 0");
        routes.forget();
        check.sameText("the object", Seen.of(routes), due);
    }

    static void promise8_costsAreAsAtFirst(Check check) {
        GlobalRoutes routes = Made.withNet(2, 2, 0, 0, 0, 1, 1);
        routes.run(4);
        routes.forget();
        check.same("lead", routes.lead(0), 10);
    }
}

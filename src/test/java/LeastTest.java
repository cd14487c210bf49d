import java.util.ArrayList;
import java.util.Collections;
import java.util.List;
import java.util.Random;

/** Promise 10 against all sets of branching cells, and on nets whose least length is known. */
public final class LeastTest {
    private static final Check CHECK = new Check();

    public static void main(String[] args) {
        knownNets();
        againstModel();
        stateDoesNotMatter();
        CHECK.end();
    }

    private static GlobalRoutes withPins(int width, int height, int... places) {
        GlobalRoutes routes = new GlobalRoutes(width, height, 1);
        routes.net();
        for (int i = 0; i < places.length; i += 2) {
            routes.pin(0, places[i], places[i + 1]);
        }
        return routes;
    }

    private static void knownNets() {
        CHECK.same("no pins", withPins(4, 4).least(0), 0);
        CHECK.same("one pin", withPins(4, 4, 2, 2).least(0), 0);
        CHECK.same("two far corners", withPins(8, 8, 0, 0, 7, 7).least(0), 14);
        CHECK.same("two other corners", withPins(8, 8, 7, 0, 0, 7).least(0), 14);
        CHECK.same("a cross without its middle", withPins(3, 3, 1, 0, 0, 1, 2, 1, 1, 2).least(0), 4);
        CHECK.same("a cross with its middle", withPins(3, 3, 1, 0, 0, 1, 2, 1, 1, 2, 1, 1).least(0), 4);
        CHECK.same("four corners", withPins(8, 8, 0, 0, 7, 0, 0, 7, 7, 7).least(0), 21);
        CHECK.same("four corners of a flat grid", withPins(8, 2, 0, 0, 7, 0, 0, 1, 7, 1).least(0), 9);
        CHECK.same("corners and middle", withPins(7, 7, 0, 0, 6, 0, 0, 6, 6, 6, 3, 3).least(0), 18);
        CHECK.same("a row", withPins(8, 3, 7, 1, 0, 1, 3, 1, 5, 1, 2, 1).least(0), 7);
    }

    private static void againstModel() {
        Random random = new Random(5);
        for (int turn = 0; turn < 3000; turn++) {
            int width = 2 + random.nextInt(7);
            int height = 2 + random.nextInt(7);
            Model model = new Model(width, height, 1);
            GlobalRoutes real = new GlobalRoutes(width, height, 1);
            List<Integer> cells = new ArrayList<>();
            for (int cell = 0; cell < width * height; cell++) {
                cells.add(cell);
            }
            Collections.shuffle(cells, random);
            model.net();
            real.net();
            int count = Math.min(width * height, 2 + random.nextInt(4));
            for (int cell : cells.subList(0, count)) {
                model.pin(0, cell % width, cell / width);
                real.pin(0, cell % width, cell / width);
            }
            CHECK.same(width + " by " + height + ", pins " + model.pins, real.least(0), model.least(0));
        }
    }

    private static void stateDoesNotMatter() {
        GlobalRoutes routes = withPins(3, 3, 0, 0, 2, 0);
        routes.capacity(0, 0, false, 0);
        routes.capacity(1, 0, false, 0);
        CHECK.same("lead goes round", routes.lead(0), 4);
        CHECK.same("longer than least", routes.length(0), 4);
        CHECK.same("least with a route", routes.least(0), 2);
        routes.net();
        routes.pin(1, 0, 0);
        routes.pin(1, 0, 2);
        CHECK.same("least of another net", routes.least(1), 2);
        CHECK.same("least again", routes.least(0), 2);
        CHECK.index("least(2)", () -> routes.least(2));
        CHECK.index("least(-1)", () -> routes.least(-1));
    }
}

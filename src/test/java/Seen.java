import java.util.function.Consumer;
import java.util.function.Supplier;

/**
 * All that can be seen of an object, as a text. On the small grids of the cases this takes far fewer
 * calls than an object may be used for.
 */
final class Seen {
    private final GlobalRoutes routes;
    private final StringBuilder text = new StringBuilder();

    private Seen(GlobalRoutes routes) {
        this.routes = routes;
    }

    static String of(GlobalRoutes routes) {
        Seen seen = new Seen(routes);
        seen.addTold();
        seen.addLines(false, routes.told(5) - 1);
        seen.addLines(true, routes.told(6) - 1);
        seen.addBorders(routes.told(5), routes.told(6), routes.told(0));
        seen.addNets(routes.told(0));
        return seen.text.toString();
    }

    /** A call on an object made so throws what is due, and leaves the object as one without it. */
    static void refused(Check check, String call, Class<? extends RuntimeException> due,
            Supplier<GlobalRoutes> making, Consumer<GlobalRoutes> calling) {
        GlobalRoutes tried = making.get();
        check.isThrown(call, due, () -> calling.accept(tried));
        check.sameText(call + ", then the object", nowAndLater(tried), nowAndLater(making.get()));
    }

    /** Once more behind further rounds, so that what is hidden shows too. */
    private static String nowAndLater(GlobalRoutes routes) {
        String now = of(routes);
        int rounds = routes.run(2);
        return now + "\nrun(2) " + rounds + "\n" + of(routes) + "\nforget() " + routes.forget();
    }

    private void addTold() {
        text.append("told");
        for (int what = 0; what < 8; what++) {
            text.append(' ').append(routes.told(what));
        }
    }

    private void addLines(boolean rows, int lines) {
        for (int k = 0; k < lines; k++) {
            text.append(rows ? "\nline of rows " : "\nline of columns ").append(k).append(':');
            for (int what = 0; what < 3; what++) {
                text.append(' ').append(routes.line(rows, k, what));
            }
        }
    }

    private void addBorders(int width, int height, int nets) {
        for (int y = 0; y < height; y++) {
            for (int x = 0; x < width; x++) {
                if (x < width - 1) {
                    addBorder(x, y, false, nets);
                }
                if (y < height - 1) {
                    addBorder(x, y, true, nets);
                }
            }
        }
    }

    private void addBorder(int x, int y, boolean down, int nets) {
        text.append("\nborder ").append(x).append(' ').append(y).append(down ? " down:" : " right:");
        for (int what = 0; what < 4; what++) {
            text.append(' ').append(routes.border(x, y, down, what));
        }
        text.append(", nets");
        for (int net = 0; net < nets; net++) {
            text.append(routes.has(net, x, y, down) ? " " + net : "");
        }
    }

    private void addNets(int nets) {
        for (int net = 0; net < nets; net++) {
            text.append("\nnet ").append(net).append(": ").append(routes.length(net));
            text.append(' ').append(routes.least(net));
        }
    }
}

import java.util.Random;

/** Long runs of calls, right and wrong ones, against the model; the seeds are fixed. */
public final class ModelTest {
    /** What later calls answer is free. */
    private static final int CALLS = 512;
    private static final int MOST_BORDERS = 112;
    private static final Check CHECK = new Check();

    private interface Answer {
        long get();
    }

    private final String place;
    private final Random random;
    private final GlobalRoutes real;
    private final Model model;
    private int calls = 0;

    private ModelTest(int seed) {
        random = new Random(seed);
        int width = pick(0, 9);
        int height = pick(0, 9);
        int capacity = seed % 3 == 0 ? pick(-1, 21) : pick(0, 2);
        place = "seed " + seed + ", new(" + width + ", " + height + ", " + capacity + ")";
        real = new GlobalRoutes(width, height, capacity);
        model = new Model(width, height, capacity);
    }

    public static void main(String[] args) {
        for (int seed = 0; seed < 300; seed++) {
            new ModelTest(seed).play();
        }
        CHECK.end();
    }

    private int pick(int from, int to) {
        return from + random.nextInt(to - from + 1);
    }

    private static String told(Answer answer) {
        try {
            return "" + answer.get();
        } catch (RuntimeException e) {
            return e.getClass().getName();
        }
    }

    private void compare(String call, Answer got, Answer due) {
        calls++;
        CHECK.same(place + " has calls left", calls <= CALLS, true);
        CHECK.sameText(place + " call " + calls + ": " + call, told(got), told(due));
    }

    private void play() {
        int first = pick(1, 12);
        for (int i = 0; i < first; i++) {
            compare("net()", real::net, model::net);
            int count = pick(0, 6);
            for (int k = 0; k < count; k++) {
                pin(i);
            }
        }
        while (calls < CALLS - 2 * MOST_BORDERS - 1) {
            change(pick(0, 17), pick(-1, first));
            look(pick(0, 9), pick(-1, first));
        }
        compareRoute(pick(0, first - 1));
        compareRoute(pick(0, first - 1));
    }

    private void pin(int net) {
        int x = pick(-1, model.width);
        int y = pick(-1, model.height);
        compare("pin(" + net + ", " + x + ", " + y + ")", () -> real.pin(net, x, y), () -> model.pin(net, x, y));
    }

    private void change(int kind, int net) {
        int x = pick(-1, model.width);
        int y = pick(-1, model.height);
        boolean down = random.nextBoolean();
        int c = pick(0, 9) == 0 ? pick(-2, 22) : pick(0, 2);
        int rounds = pick(0, 9) == 0 ? pick(-2, 12) : pick(0, 3);
        if (kind < 4) {
            compare("capacity(" + x + ", " + y + ", " + down + ", " + c + ")",
                    () -> real.capacity(x, y, down, c), () -> model.capacity(x, y, down, c));
        } else if (kind < 8) {
            compare("lead(" + net + ")", () -> real.lead(net), () -> model.lead(net));
        } else if (kind < 10) {
            compare("rip(" + net + ")", () -> real.rip(net), () -> model.rip(net));
        } else if (kind < 14) {
            compare("run(" + rounds + ")", () -> real.run(rounds), () -> model.run(rounds));
        } else if (kind < 15) {
            if (pick(0, 5) == 0) {
                compare("forget()", real::forget, model::forget);
            }
        } else if (kind < 16) {
            if (pick(0, 3) == 0) {
                compare("net()", real::net, model::net);
            }
        } else {
            pin(net);
        }
    }

    private void look(int kind, int net) {
        int x = pick(-1, model.width);
        int y = pick(-1, model.height);
        boolean down = random.nextBoolean();
        int what = pick(-1, 9);
        if (kind < 1) {
            compare("length(" + net + ")", () -> real.length(net), () -> model.length(net));
        } else if (kind < 2) {
            compare("least(" + net + ")", () -> real.least(net), () -> model.least(net));
        } else if (kind < 3) {
            compareBorder(net, x, y, down);
        } else if (kind < 6) {
            compare("border(" + x + ", " + y + ", " + down + ", " + what % 5 + ")",
                    () -> real.border(x, y, down, what % 5), () -> model.border(x, y, down, what % 5));
        } else if (kind < 8) {
            compare("line(" + down + ", " + x + ", " + what % 4 + ")",
                    () -> real.line(down, x, what % 4), () -> model.line(down, x, what % 4));
        } else {
            compare("told(" + what + ")", () -> real.told(what), () -> model.told(what));
        }
    }

    private void compareRoute(int net) {
        for (int x = 0; x < model.width; x++) {
            for (int y = 0; y < model.height; y++) {
                if (x < model.width - 1) {
                    compareBorder(net, x, y, false);
                }
                if (y < model.height - 1) {
                    compareBorder(net, x, y, true);
                }
            }
        }
    }

    private void compareBorder(int net, int x, int y, boolean down) {
        compare("has(" + net + ", " + x + ", " + y + ", " + down + ")",
                () -> real.has(net, x, y, down) ? 1 : 0, () -> model.has(net, x, y, down) ? 1 : 0);
    }
}

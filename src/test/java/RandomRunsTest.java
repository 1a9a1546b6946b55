import java.util.Random;

/** Runs of calls drawn at random (always the same ones), each answer beside that of the plain model. */
public final class RandomRunsTest {
    private static final int RUNS = 200;
    private static final int CALLS = 512;
    private static final int[] EDGES = {-30000, 30000, -30001, 30001, -40000, 40000, -40001, 40001, 35000, -35000,
        0, 1, -1, 2, 3, Integer.MAX_VALUE, Integer.MIN_VALUE};

    private final Checks checks = new Checks();
    private final Random random = new Random(20261116);
    private TickWalks walks;
    private PlainModel model;

    public static void main(String[] args) {
        RandomRunsTest test = new RandomRunsTest();
        for (int run = 0; run < RUNS; run++) {
            test.run("run " + run + ": ");
        }
        test.checks.end();
    }

    private void run(String name) {
        walks = new TickWalks();
        model = new PlainModel();
        int reach = new int[] {3, 30, 300, 30000}[random.nextInt(4)];
        for (int call = 0; call < CALLS; call++) {
            ask(name + "call " + call + ": ", reach);
        }
    }

    private void ask(String name, int reach) {
        int kind = random.nextInt(100);
        if (kind < 3) {
            int x = number(reach);
            int y = number(reach);
            int z = number(reach);
            checks.due(name + "place", walks.place(x, y, z), model.place(x, y, z));
        } else if (kind < 8) {
            int x = number(reach);
            int y = number(reach);
            int z = number(reach);
            checks.due(name + "line", walks.line(x, y, z), model.line(x, y, z));
        } else if (kind < 16) {
            arc(name, reach);
        } else if (kind < 80) {
            int k = random.nextInt(20) == 0 ? number(reach) : random.nextInt(model.ticks() + 2);
            int axis = axis();
            checks.due(name + "tick(" + k + ", " + axis + ")", walks.tick(k, axis), model.tick(k, axis));
        } else if (kind < 85) {
            checks.due(name + "ticks()", walks.ticks(), model.ticks());
        } else if (kind < 92) {
            int axis = axis();
            checks.due(name + "at(" + axis + ")", walks.at(axis), model.at(axis));
        } else if (kind < 98) {
            checks.due(name + "off()", walks.off(), model.off());
        } else {
            checks.due(name + "strays()", walks.strays(), model.strays());
        }
    }

    private void arc(String name, int reach) {
        int radius = random.nextInt(10) == 0 ? 4000 : Math.min(reach, 60);
        int cx = random.nextInt(12) == 0 ? number(reach) : model.at(0) + near(radius);
        int cy = random.nextInt(12) == 0 ? number(reach) : model.at(1) + near(radius);
        int x = model.at(0);
        int y = model.at(1);
        switch (random.nextInt(6)) {
            case 0 -> x = 2 * cx - x;
            case 1 -> y = 2 * cy - y;
            case 2 -> {
                x = 2 * cx - x;
                y = 2 * cy - y;
            }
            case 3 -> {
                int turned = cx - (y - cy);
                y = cy + (x - cx);
                x = turned;
            }
            case 4 -> {
                x += near(3);
                y += near(3);
            }
            default -> { }
        }
        boolean left = random.nextBoolean();
        String call = "arc(" + x + ", " + y + ", " + cx + ", " + cy + ", " + left + ")";
        checks.due(name + call, walks.arc(x, y, cx, cy, left), model.arc(x, y, cx, cy, left));
    }

    private int axis() {
        return random.nextInt(15) == 0 ? EDGES[random.nextInt(EDGES.length)] : random.nextInt(3);
    }

    private int near(int reach) {
        return random.nextInt(2 * reach + 1) - reach;
    }

    private int number(int reach) {
        return random.nextInt(15) == 0 ? EDGES[random.nextInt(EDGES.length)] : near(reach);
    }
}

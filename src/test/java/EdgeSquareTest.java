/** Terms: 'R2 is the square of the distance from c of where it stands, 1 to 25000000'. */
public final class EdgeSquareTest {
    private static final int[] AROUND_X = {0, 1, 1, 0, -1, -1, -1, 0, 1};
    private static final int[] AROUND_Y = {0, 0, 1, 1, 1, 0, -1, -1, -1};
    private static final Checks CHECKS = new Checks();

    public static void main(String[] args) {
        none("R2 0", 0, 0, 0, 0);
        none("R2 0", 12, -13, 12, -13);
        none("R2 0", 30000, -30000, 30000, -30000);
        squareOne();
        greatest();
        justAbove();
        beyondAnInt();
        CHECKS.end();
    }

    // Where it stands and each place that one tick could reach is told as the end.
    private static void none(String name, int x, int y, int cx, int cy) {
        TickWalks walks = Checks.at(x, y, 9);
        for (int i = 0; i < AROUND_X.length; i++) {
            int endX = Math.max(-30000, Math.min(30000, x + AROUND_X[i]));
            int endY = Math.max(-30000, Math.min(30000, y + AROUND_Y[i]));
            CHECKS.due(name + " left", walks.arc(endX, endY, cx, cy, true), -1);
            CHECKS.due(name + " right", walks.arc(endX, endY, cx, cy, false), -1);
        }
        CHECKS.stands(name, walks, x, y, 9);
        CHECKS.nothingWalked(name, walks);
    }

    private static void squareOne() {
        for (int i = 1; i < AROUND_X.length; i += 2) {
            int x = -40 + AROUND_X[i];
            int y = 50 + AROUND_Y[i];
            TickWalks walks = Checks.at(x, y, 9);
            CHECKS.due("R2 1 left", walks.arc(x, y, -40, 50, true), 4);
            CHECKS.tickIs("R2 1 left", walks, 1, -40 - AROUND_Y[i], 50 + AROUND_X[i], 9);
            CHECKS.due("R2 1 right", walks.arc(x, y, -40, 50, false), 4);
            CHECKS.tickIs("R2 1 right", walks, 1, -40 + AROUND_Y[i], 50 - AROUND_X[i], 9);
            CHECKS.due("R2 1: off()", walks.off(), 0);
        }
    }

    private static void greatest() {
        int[][] places = {{5000, 0}, {0, -5000}, {3000, 4000}, {-4000, 3000}, {-1400, -4800}};
        for (int[] p : places) {
            String name = "R2 25000000 from " + p[0] + " " + p[1];
            PlainModel model = new PlainModel();
            model.place(p[0], p[1], 0);
            TickWalks walks = Checks.at(p[0], p[1], 0);
            CHECKS.due(name, walks.arc(-p[0], -p[1], 0, 0, true), model.arc(-p[0], -p[1], 0, 0, true));
            CHECKS.stands(name, walks, -p[0], -p[1], 0);
            CHECKS.due(name + ": off()", walks.off(), model.off());
            CHECKS.due(name + " and round", walks.arc(-p[0], -p[1], 0, 0, false), 28284);
        }
    }

    private static void justAbove() {
        none("R2 25000001", 5000, 1, 0, 0);
        none("R2 25000001", 4999, -100, 0, 0);
        none("R2 25000001", -30000, 1, -35000, 0);
        none("R2 25010001", 0, 5001, 0, 0);
    }

    // Of these squares an int would hold 25, 1, 393225 and 25000000, less than none, and a great number.
    private static void beyondAnInt() {
        none("R2 2 ^ 32 + 25", 30000, 5, -35536, 0);
        none("R2 2 ^ 32 + 1", -1, -30000, 0, 35536);
        none("R2 2 ^ 32 + 393225", 30000, 0, -35539, 0);
        none("R2 2 ^ 32 + 25000000", -30000, 5000, 35536, 0);
        none("R2 2 ^ 31 + 4633", 0, 30000, 0, -16341);
        none("R2 9800000000", 30000, 30000, -40000, -40000);
        none("R2 9800000000", -30000, 30000, 40000, -40000);
    }
}

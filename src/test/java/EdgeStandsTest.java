/** Terms: 'It stands at x y z, each from -30000 to 30000'. */
public final class EdgeStandsTest {
    private static final int[] INSIDE = {-30000, -29999, 29999, 30000};
    private static final int[] OUTSIDE = {Integer.MIN_VALUE, -30001, 30001, Integer.MAX_VALUE};
    private static final Checks CHECKS = new Checks();

    public static void main(String[] args) {
        for (int axis = 0; axis < 3; axis++) {
            for (int number : INSIDE) {
                standsAt(with(axis, number));
            }
            for (int number : OUTSIDE) {
                standsNotAt(with(axis, number));
            }
        }
        cornersAreInside();
        CHECKS.end();
    }

    private static int[] with(int axis, int number) {
        int[] place = {1, 2, 3};
        place[axis] = number;
        return place;
    }

    private static void standsAt(int[] p) {
        String there = p[0] + " " + p[1] + " " + p[2];
        TickWalks placed = new TickWalks();
        CHECKS.due("place " + there, placed.place(p[0], p[1], p[2]), true);
        CHECKS.stands("place " + there, placed, p[0], p[1], p[2]);
        TickWalks walked = new TickWalks();
        CHECKS.due("line to " + there, walked.line(p[0], p[1], p[2]) > 0, true);
        CHECKS.stands("line to " + there, walked, p[0], p[1], p[2]);
    }

    private static void standsNotAt(int[] p) {
        String there = p[0] + " " + p[1] + " " + p[2];
        TickWalks walks = Checks.at(4, 5, 6);
        CHECKS.due("place " + there, walks.place(p[0], p[1], p[2]), false);
        CHECKS.stands("place " + there, walks, 4, 5, 6);
        CHECKS.due("line to " + there, walks.line(p[0], p[1], p[2]), -1);
        CHECKS.stands("line to " + there, walks, 4, 5, 6);
    }

    private static void cornersAreInside() {
        for (int x = -30000; x <= 30000; x += 60000) {
            for (int y = -30000; y <= 30000; y += 60000) {
                for (int z = -30000; z <= 30000; z += 60000) {
                    standsAt(new int[] {x, y, z});
                }
            }
        }
    }
}

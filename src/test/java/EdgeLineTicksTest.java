/** Terms: 'A LINE by dx dy dz has N ticks', with none and with the most; 'cut down to the whole number not above'. */
public final class EdgeLineTicksTest {
    private static final Checks CHECKS = new Checks();

    public static void main(String[] args) {
        noTickAtAll();
        oneTick();
        longestLines();
        longestLineWithAllSlopes();
        cutDownBelowTheBeginning();
        CHECKS.end();
    }

    private static void noTickAtAll() {
        int[][] places = {{0, 0, 0}, {5, -6, 7}, {30000, 30000, 30000}, {-30000, -30000, -30000}};
        for (int[] p : places) {
            TickWalks walks = Checks.at(p[0], p[1], p[2]);
            CHECKS.due("line by 0 0 0", walks.line(p[0], p[1], p[2]), 0);
            CHECKS.due("line by 0 0 0: ticks()", walks.ticks(), 0);
            CHECKS.stands("line by 0 0 0", walks, p[0], p[1], p[2]);
            CHECKS.tickIs("line by 0 0 0", walks, 0, p[0], p[1], p[2]);
            CHECKS.tickIs("line by 0 0 0", walks, 1, 0, 0, 0);
        }
    }

    private static void oneTick() {
        for (int by = -1; by <= 1; by += 2) {
            for (int axis = 0; axis < 3; axis++) {
                int[] end = {5, -6, 7};
                end[axis] += by;
                TickWalks walks = Checks.at(5, -6, 7);
                CHECKS.due("line by one", walks.line(end[0], end[1], end[2]), 1);
                CHECKS.tickIs("line by one", walks, 0, 5, -6, 7);
                CHECKS.tickIs("line by one", walks, 1, end[0], end[1], end[2]);
                CHECKS.tickIs("line by one", walks, 2, 0, 0, 0);
            }
        }
    }

    private static void longestLines() {
        for (int from = -30000; from <= 30000; from += 60000) {
            int up = from < 0 ? 1 : -1;
            CHECKS.due("along x", Checks.at(from, 1, 2).line(-from, 1, 2), 60000);
            CHECKS.due("along y", Checks.at(1, from, 2).line(1, -from, 2), 60000);
            CHECKS.due("along z", Checks.at(1, 2, from).line(1, 2, -from), 60000);
            TickWalks walks = Checks.at(from, from, from);
            CHECKS.due("corner to corner", walks.line(-from, -from, -from), 60000);
            for (int k : new int[] {0, 1, 2, 17895, 17896, 29999, 30000, 30001, 35791, 35792, 59999, 60000}) {
                int due = from + up * k;
                CHECKS.tickIs("corner to corner", walks, k, due, due, due);
            }
            CHECKS.tickIs("corner to corner", walks, 60001, 0, 0, 0);
        }
    }

    // By 60000, -30000 and -1: the second goes down at every even tick, the third behind the middle.
    private static void longestLineWithAllSlopes() {
        TickWalks walks = Checks.at(-30000, 10, 20);
        CHECKS.due("by 60000 -30000 -1", walks.line(30000, -29990, 19), 60000);
        for (int k : new int[] {0, 1, 2, 3, 4, 29999, 30000, 30001, 30002, 59998, 59999, 60000}) {
            CHECKS.tickIs("by 60000 -30000 -1", walks, k, -30000 + k, 10 - k / 2, k <= 30000 ? 20 : 19);
        }
        TickWalks up = Checks.at(0, 30000, 20);
        CHECKS.due("by 30000 -60000 1", up.line(30000, -30000, 21), 60000);
        for (int k : new int[] {0, 1, 2, 3, 4, 29998, 29999, 30000, 30001, 59998, 59999, 60000}) {
            CHECKS.tickIs("by 30000 -60000 1", up, k, (k + 1) / 2, 30000 - k, k < 30000 ? 20 : 21);
        }
    }

    private static void cutDownBelowTheBeginning() {
        // By -3 in 7 ticks (-6 k + 7) / 14 is 1/14, -5/14, -11/14, -17/14, -23/14, -29/14, -35/14.
        int[] down = {0, 0, -1, -1, -2, -2, -3, -3};
        // By 3 in 7 ticks (6 k + 7) / 14 is 13/14, 19/14, 25/14, 31/14, 37/14, 43/14, 49/14.
        int[] up = {0, 0, 1, 1, 2, 2, 3, 3};
        for (int base : new int[] {0, 100, -100, 2, -2}) {
            TickWalks walks = Checks.at(base, base, base);
            CHECKS.due("by -7 -3 3", walks.line(base - 7, base - 3, base + 3), 7);
            for (int k = 0; k <= 7; k++) {
                CHECKS.tickIs("by -7 -3 3 from " + base, walks, k, base - k, base + down[k], base + up[k]);
            }
        }
        // A half is cut down: up from below, and back to the beginning from above.
        TickWalks halves = Checks.at(0, 0, 0);
        CHECKS.due("by -1 1 -2", halves.line(-1, 1, -2), 2);
        CHECKS.tickIs("by -1 1 -2", halves, 1, 0, 1, -1);
        CHECKS.tickIs("by -1 1 -2", halves, 2, -1, 1, -2);
    }
}

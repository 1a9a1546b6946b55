public final class Promise2PlaceTest {
    private static final int[] NONE = {30001, -30001, 40000, -40000, Integer.MAX_VALUE, Integer.MIN_VALUE};
    private static final Checks CHECKS = new Checks();

    public static void main(String[] args) {
        standsThere();
        refusesWhatIsNoPlace();
        leavesNothingWalked();
        CHECKS.end();
    }

    private static void standsThere() {
        TickWalks walks = new TickWalks();
        int[][] places = {{1, 2, 3}, {-7, 0, 9}, {30000, 30000, 30000}, {-30000, -30000, -30000},
            {30000, -30000, 0}, {0, 0, 0}};
        for (int[] p : places) {
            CHECKS.due("place", walks.place(p[0], p[1], p[2]), true);
            CHECKS.stands("placed", walks, p[0], p[1], p[2]);
            CHECKS.nothingWalked("placed", walks);
        }
    }

    private static void refusesWhatIsNoPlace() {
        TickWalks walks = Checks.at(4, 5, 6);
        walks.line(7, 5, 4);
        for (int none : NONE) {
            CHECKS.due("place(" + none + ", 0, 0)", walks.place(none, 0, 0), false);
            CHECKS.due("place(0, " + none + ", 0)", walks.place(0, none, 0), false);
            CHECKS.due("place(0, 0, " + none + ")", walks.place(0, 0, none), false);
            CHECKS.stands("no place", walks, 7, 5, 4);
            CHECKS.due("no place: ticks()", walks.ticks(), 3);
            CHECKS.tickIs("no place", walks, 0, 4, 5, 6);
        }
    }

    private static void leavesNothingWalked() {
        TickWalks walks = new TickWalks();
        walks.line(10, 0, 0);
        walks.place(5, 6, 7);
        CHECKS.nothingWalked("a place after a line", walks);
        CHECKS.stands("a place after a line", walks, 5, 6, 7);

        CHECKS.due("arc", walks.arc(5, 6, 2, 6, true), 16);
        CHECKS.due("arc: off()", walks.off(), 1);
        walks.place(5, 6, 7);
        CHECKS.nothingWalked("a place after an arc", walks);

        CHECKS.due("refused line", walks.line(30001, 0, 0), -1);
        CHECKS.due("refused arc", walks.arc(0, 0, 2, 6, true), -1);
        CHECKS.nothingWalked("refused after a place", walks);

        CHECKS.due("a line after a place", walks.line(5, 8, 7), 2);
        CHECKS.tickIs("a line after a place", walks, 1, 5, 7, 7);
    }
}

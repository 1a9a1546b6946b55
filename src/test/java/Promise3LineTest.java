public final class Promise3LineTest {
    private static final int[] NONE = {30001, -30001, Integer.MAX_VALUE, Integer.MIN_VALUE};
    private static final Checks CHECKS = new Checks();

    public static void main(String[] args) {
        ordinaryLines();
        halvesAreCutDown();
        noTicksAtAll();
        fromEdgeToEdge();
        refusedLines();
        CHECKS.end();
    }

    private static void ordinaryLines() {
        TickWalks walks = new TickWalks();
        CHECKS.due("line by 3 on x", walks.line(3, 1, -2), 3);
        CHECKS.stands("line", walks, 3, 1, -2);
        CHECKS.due("line by -5 on y", walks.line(4, -4, -2), 5);
        CHECKS.stands("line", walks, 4, -4, -2);
        CHECKS.due("line by 9 on z", walks.line(0, 0, 7), 9);
        CHECKS.stands("line", walks, 0, 0, 7);
        CHECKS.due("line by -4 on x", walks.line(-4, 4, 3), 4);
        CHECKS.tickIs("diagonal", walks, 0, 0, 0, 7);
        CHECKS.tickIs("diagonal", walks, 1, -1, 1, 6);
        CHECKS.tickIs("diagonal", walks, 3, -3, 3, 4);
        CHECKS.tickIs("diagonal", walks, 4, -4, 4, 3);
    }

    private static void halvesAreCutDown() {
        TickWalks walks = Checks.at(100, 100, 100);
        CHECKS.due("line by 2 1 -1", walks.line(102, 101, 99), 2);
        CHECKS.tickIs("half a step up and down", walks, 1, 101, 101, 100);
        CHECKS.tickIs("half a step up and down", walks, 2, 102, 101, 99);

        walks.place(-100, -100, -100);
        CHECKS.due("line by -6 3 -3", walks.line(-106, -97, -103), 6);
        CHECKS.tickIs("halves", walks, 1, -101, -99, -100);
        CHECKS.tickIs("halves", walks, 2, -102, -99, -101);
        CHECKS.tickIs("halves", walks, 3, -103, -98, -101);
        CHECKS.tickIs("halves", walks, 4, -104, -98, -102);
        CHECKS.tickIs("halves", walks, 5, -105, -97, -102);
        CHECKS.tickIs("halves", walks, 6, -106, -97, -103);
    }

    private static void noTicksAtAll() {
        TickWalks walks = Checks.at(8, -9, 10);
        CHECKS.due("line to where it stands", walks.line(8, -9, 10), 0);
        CHECKS.due("line to where it stands: ticks()", walks.ticks(), 0);
        CHECKS.tickIs("line to where it stands", walks, 0, 8, -9, 10);
        CHECKS.tickIs("line to where it stands", walks, 1, 0, 0, 0);
        CHECKS.stands("line to where it stands", walks, 8, -9, 10);
    }

    private static void fromEdgeToEdge() {
        TickWalks walks = Checks.at(-30000, 30000, -30000);
        CHECKS.due("edge to edge", walks.line(30000, -30000, 0), 60000);
        CHECKS.stands("edge to edge", walks, 30000, -30000, 0);
        CHECKS.tickIs("edge to edge", walks, 0, -30000, 30000, -30000);
        CHECKS.tickIs("edge to edge", walks, 1, -29999, 29999, -29999);
        CHECKS.tickIs("edge to edge", walks, 2, -29998, 29998, -29999);
        CHECKS.tickIs("edge to edge", walks, 59999, 29999, -29999, 0);
        CHECKS.tickIs("edge to edge", walks, 60000, 30000, -30000, 0);
        CHECKS.due("back", walks.line(-30000, 30000, -30000), 60000);
        CHECKS.tickIs("back", walks, 1, 29999, -29999, 0);
        CHECKS.tickIs("back", walks, 59999, -29999, 29999, -29999);
    }

    private static void refusedLines() {
        TickWalks walks = Checks.at(1, 2, 3);
        walks.line(2, 4, 3);
        for (int none : NONE) {
            CHECKS.due("line(" + none + ", 0, 0)", walks.line(none, 0, 0), -1);
            CHECKS.due("line(0, " + none + ", 0)", walks.line(0, none, 0), -1);
            CHECKS.due("line(0, 0, " + none + ")", walks.line(0, 0, none), -1);
            CHECKS.stands("refused line", walks, 2, 4, 3);
            CHECKS.due("refused line: ticks()", walks.ticks(), 2);
            CHECKS.tickIs("refused line", walks, 1, 2, 3, 3);
        }
    }
}

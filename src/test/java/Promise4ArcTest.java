public final class Promise4ArcTest {
    private static final Checks CHECKS = new Checks();

    public static void main(String[] args) {
        smallCircles();
        everyBeginningNearTheCentre();
        squareOne();
        greatestSquare();
        wrongNumbers();
        refusedArcs();
        atTheEdges();
        CHECKS.end();
    }

    private static void walksAlong(String name, TickWalks walks, int[][] places) {
        CHECKS.due(name + ": ticks()", walks.ticks(), places.length - 1);
        for (int k = 0; k < places.length; k++) {
            CHECKS.tickIs(name, walks, k, places[k][0], places[k][1], walks.at(2));
        }
    }

    private static void smallCircles() {
        TickWalks walks = Checks.at(2, 0, 5);
        CHECKS.due("left round 2", walks.arc(2, 0, 0, 0, true), 12);
        walksAlong("left round 2", walks, new int[][] {{2, 0}, {2, 1}, {1, 2}, {0, 2}, {-1, 2}, {-2, 1}, {-2, 0},
            {-2, -1}, {-1, -2}, {0, -2}, {1, -2}, {2, -1}, {2, 0}});
        CHECKS.due("right round 2", walks.arc(0, 2, 0, 0, false), 9);
        walksAlong("right round 2", walks, new int[][] {{2, 0}, {2, -1}, {1, -2}, {0, -2}, {-1, -2}, {-2, -1},
            {-2, 0}, {-2, 1}, {-1, 2}, {0, 2}});
        CHECKS.stands("right round 2", walks, 0, 2, 5);
        CHECKS.due("back to the left", walks.arc(2, 0, 0, 0, true), 9);
        CHECKS.stands("back to the left", walks, 2, 0, 5);

        TickWalks elsewhere = Checks.at(-98, 40, -3);
        CHECKS.due("left about -100 40", elsewhere.arc(-100, 42, -100, 40, true), 3);
        walksAlong("left about -100 40", elsewhere, new int[][] {{-98, 40}, {-98, 41}, {-99, 42}, {-100, 42}});
    }

    // No arc is known on which two neighbours are equally near, so the order E NE N .. has no test of its own.
    private static void everyBeginningNearTheCentre() {
        for (int x = -9; x <= 9; x++) {
            for (int y = -9; y <= 9; y++) {
                sameAsThePlainModel(x, y, true);
                sameAsThePlainModel(x, y, false);
            }
        }
    }

    private static void sameAsThePlainModel(int x, int y, boolean left) {
        TickWalks walks = Checks.at(x, y, 0);
        PlainModel model = new PlainModel();
        model.place(x, y, 0);
        String name = "circle from " + x + " " + y + (left ? " left" : " right");
        CHECKS.due(name, walks.arc(x, y, 0, 0, left), model.arc(x, y, 0, 0, left));
        for (int k = 0; k <= model.ticks(); k++) {
            CHECKS.tickIs(name, walks, k, model.tick(k, 0), model.tick(k, 1), 0);
        }
    }

    private static void squareOne() {
        TickWalks walks = Checks.at(1, 0, 0);
        CHECKS.due("R2 1, left round", walks.arc(1, 0, 0, 0, true), 4);
        walksAlong("R2 1, left round", walks, new int[][] {{1, 0}, {0, 1}, {-1, 0}, {0, -1}, {1, 0}});
        CHECKS.due("R2 1, right round", walks.arc(1, 0, 0, 0, false), 4);
        walksAlong("R2 1, right round", walks, new int[][] {{1, 0}, {0, -1}, {-1, 0}, {0, 1}, {1, 0}});
        CHECKS.due("R2 0", walks.arc(1, 0, 1, 0, false), -1);
        CHECKS.due("R2 0 to another end", walks.arc(2, 0, 1, 0, true), -1);
    }

    private static void greatestSquare() {
        TickWalks walks = Checks.at(5000, 0, 1);
        PlainModel model = new PlainModel();
        model.place(5000, 0, 1);
        CHECKS.due("R2 25000000", walks.arc(5000, 0, 0, 0, true), model.arc(5000, 0, 0, 0, true));
        CHECKS.due("R2 25000000: ticks()", walks.ticks(), 28284);
        CHECKS.due("R2 25000000, a quarter", walks.arc(0, -5000, 0, 0, false), 7071);
        CHECKS.stands("R2 25000000, a quarter", walks, 0, -5000, 1);

        TickWalks slanted = Checks.at(3000, 4000, 0);
        CHECKS.due("R2 25000000, slanted", slanted.arc(-3000, -4000, 0, 0, true), 14142);

        TickWalks beyond = Checks.at(5000, 1, 0);
        CHECKS.due("R2 25000001", beyond.arc(5000, 1, 0, 0, true), -1);
        CHECKS.due("R2 25000001", beyond.arc(5000, 2, 0, 0, true), -1);
        TickWalks far = Checks.at(30000, 30000, 0);
        CHECKS.due("R2 9800000000", far.arc(30000, 30000, -40000, -40000, true), -1);
        // 65536 squared is 0 in an int: R2 must not be taken for 25, with one tick inwards to the end.
        TickWalks wrapped = Checks.at(30000, 5, 0);
        CHECKS.due("R2 65536 * 65536 + 25", wrapped.arc(29999, 5, -35536, 0, true), -1);
        CHECKS.stands("R2 65536 * 65536 + 25", wrapped, 30000, 5, 0);
    }

    private static void wrongNumbers() {
        int[] noPlace = {30001, -30001, Integer.MAX_VALUE, Integer.MIN_VALUE};
        int[] noCentre = {40001, -40001, Integer.MAX_VALUE, Integer.MIN_VALUE};
        TickWalks walks = Checks.at(10, 0, 0);
        CHECKS.due("arc", walks.arc(0, 10, 0, 0, true), 14);
        for (int none : noPlace) {
            CHECKS.due("arc to x " + none, walks.arc(none, 10, 0, 0, true), -1);
            CHECKS.due("arc to y " + none, walks.arc(10, none, 0, 0, false), -1);
        }
        for (int none : noCentre) {
            CHECKS.due("arc about x " + none, walks.arc(0, 10, none, 0, true), -1);
            CHECKS.due("arc about y " + none, walks.arc(0, 10, 0, none, false), -1);
        }
        for (int edge : new int[] {40000, -40000}) {
            CHECKS.due("arc about x " + edge + ", R2 too great", walks.arc(0, 10, edge, 0, true), -1);
            CHECKS.due("arc about y " + edge + ", R2 too great", walks.arc(0, 10, 0, edge, true), -1);
        }
        CHECKS.stands("wrong numbers", walks, 0, 10, 0);
        CHECKS.due("wrong numbers: ticks()", walks.ticks(), 14);
    }

    private static void refusedArcs() {
        TickWalks walks = Checks.at(20, 0, 7);
        CHECKS.due("arc", walks.arc(0, 20, 0, 0, true), 28);
        int[][] notOnTheWay = {{0, 0}, {0, 21}, {20, 20}, {-30000, 30000}, {19, 0}};
        for (int[] end : notOnTheWay) {
            CHECKS.due("end not on the way", walks.arc(end[0], end[1], 0, 0, true), -1);
            CHECKS.due("end not on the way", walks.arc(end[0], end[1], 0, 0, false), -1);
            CHECKS.stands("refused arc", walks, 0, 20, 7);
            CHECKS.due("refused arc: ticks()", walks.ticks(), 28);
            CHECKS.due("refused arc: off()", walks.off(), 16);
            CHECKS.tickIs("refused arc", walks, 0, 20, 0, 7);
            CHECKS.tickIs("refused arc", walks, 20, 8, 18, 7);
        }
        walks.line(0, 25, 7);
        CHECKS.due("refused arc after a line", walks.arc(1, 1, 0, 0, true), -1);
        CHECKS.due("refused arc after a line: ticks()", walks.ticks(), 5);
        CHECKS.tickIs("refused arc after a line", walks, 3, 0, 23, 7);
        // The circle of 5000 is over after 28284 ticks: going on to 40000 does not help.
        TickWalks wide = Checks.at(5000, 0, 0);
        CHECKS.due("not there within 40000 ticks", wide.arc(4999, 0, 0, 0, true), -1);
        CHECKS.stands("not there within 40000 ticks", wide, 5000, 0, 0);
        CHECKS.nothingWalked("not there within 40000 ticks", wide);
    }

    // The document bounds where it stands, and names all eight neighbours for a tick:
    // on its way an arc may pass beyond 30000.
    private static void atTheEdges() {
        TickWalks inside = Checks.at(30000, 0, 0);
        CHECKS.due("end at x 30000", inside.arc(30000, 0, 29990, 0, true), 56);
        CHECKS.stands("end at x 30000", inside, 30000, 0, 0);
        TickWalks corner = Checks.at(-30000, -29980, 0);
        CHECKS.due("end at y -30000", corner.arc(-29980, -30000, -29980, -29980, true), 28);
        CHECKS.stands("end at y -30000", corner, -29980, -30000, 0);

        TickWalks beyond = Checks.at(30000, -20, 0);
        CHECKS.due("passing beyond 30000", beyond.arc(30000, 20, 30000, 0, true), 56);
        CHECKS.tickIs("passing beyond 30000", beyond, 28, 30020, 0, 0);
        CHECKS.stands("passing beyond 30000", beyond, 30000, 20, 0);
        TickWalks about = Checks.at(-30000, 0, 0);
        CHECKS.due("about -35000", about.arc(-30000, 0, -35000, 0, false), 28284);
        CHECKS.tickIs("about -35000", about, 14142, -40000, 0, 0);
    }
}

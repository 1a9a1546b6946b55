/** Promise 4: '-1 if R2 or a number is none, or it is refused (c may be from -40000 to 40000)'. */
public final class EdgeArcNumbersTest {
    private static final int[] NO_PLACE = {Integer.MIN_VALUE, -40000, -30001, 30001, 40000, Integer.MAX_VALUE};
    private static final int[] NO_CENTRE = {Integer.MIN_VALUE, -40001, 40001, Integer.MAX_VALUE};
    // Inside, but so far that R2 is none wherever it stands.
    private static final int[] FAR_CENTRE = {-40000, -39999, 39999, 40000, -35001, 35001};
    private static final Checks CHECKS = new Checks();

    public static void main(String[] args) {
        for (Before before : Before.ALL) {
            for (boolean left : new boolean[] {true, false}) {
                noPlace(before, left);
                noCentre(before, left);
                before.unchanged(CHECKS, "arc of R2 0",
                    walks -> walks.arc(walks.at(0), walks.at(1), walks.at(0), walks.at(1), left), -1);
            }
        }
        for (int side = 0; side < 4; side++) {
            endsAtTheEdge(side);
            endsBeyondTheEdge(side);
            centreBeyondTheEdge(side);
        }
        CHECKS.end();
    }

    private static void noPlace(Before before, boolean left) {
        for (int none : NO_PLACE) {
            before.unchanged(CHECKS, "arc to x " + none,
                walks -> walks.arc(none, walks.at(1), walks.at(0), walks.at(1) - 5, left), -1);
            before.unchanged(CHECKS, "arc to y " + none,
                walks -> walks.arc(walks.at(0), none, walks.at(0), walks.at(1) - 5, left), -1);
        }
    }

    private static void noCentre(Before before, boolean left) {
        for (int[] numbers : new int[][] {NO_CENTRE, FAR_CENTRE}) {
            for (int none : numbers) {
                before.unchanged(CHECKS, "arc about x " + none,
                    walks -> walks.arc(walks.at(0), walks.at(1), none, walks.at(1), left), -1);
                before.unchanged(CHECKS, "arc about y " + none,
                    walks -> walks.arc(walks.at(0), walks.at(1), walks.at(0), none, left), -1);
            }
        }
    }

    // Told for the side where x is great; turned by quarters to the left for the others.
    private static int turnedX(int side, int x, int y) {
        return new int[] {x, -y, -x, y}[side];
    }

    private static int turnedY(int side, int x, int y) {
        return new int[] {y, x, -y, -x}[side];
    }

    private static int turnedArc(int side, TickWalks walks, int[] end, int[] centre, boolean left) {
        return walks.arc(turnedX(side, end[0], end[1]), turnedY(side, end[0], end[1]),
            turnedX(side, centre[0], centre[1]), turnedY(side, centre[0], centre[1]), left);
    }

    private static void endsAtTheEdge(int side) {
        int[] end = {30000, 7};
        int[] centre = {29980, 7};
        TickWalks walks = Checks.at(turnedX(side, 29980, 27), turnedY(side, 29980, 27), 1);
        CHECKS.due("end at the edge, right", turnedArc(side, walks, end, centre, false), 28);
        CHECKS.stands("end at the edge", walks, turnedX(side, 30000, 7), turnedY(side, 30000, 7), 1);
        CHECKS.due("end at the edge, left", turnedArc(side, walks, new int[] {29980, -13}, centre, true), 84);
        CHECKS.due("end at the edge, left", turnedArc(side, walks, end, centre, true), 28);
    }

    // The first tick goes to x 30001, which as an end is none.
    private static void endsBeyondTheEdge(int side) {
        TickWalks walks = Checks.at(turnedX(side, 30000, -20), turnedY(side, 30000, -20), 1);
        int[] centre = {30000, 0};
        CHECKS.due("end beyond the edge", turnedArc(side, walks, new int[] {30001, -20}, centre, true), -1);
        CHECKS.due("end beyond the edge", turnedArc(side, walks, new int[] {30020, 0}, centre, true), -1);
        CHECKS.stands("end beyond the edge", walks, turnedX(side, 30000, -20), turnedY(side, 30000, -20), 1);
        CHECKS.nothingWalked("end beyond the edge", walks);
        CHECKS.due("end within", turnedArc(side, walks, new int[] {29999, -20}, centre, false), 1);
    }

    // 35000 is the farthest centre with an R2 that is one, as it stands at 30000 at most.
    private static void centreBeyondTheEdge(int side) {
        TickWalks walks = Checks.at(turnedX(side, 30000, 0), turnedY(side, 30000, 0), 1);
        int[] end = {30000, 1};
        CHECKS.due("about 30001", turnedArc(side, walks, new int[] {30000, 0}, new int[] {30001, 0}, true), 4);
        CHECKS.due("about 35000", turnedArc(side, walks, end, new int[] {35000, 0}, false), 1);
        CHECKS.due("about 35001", turnedArc(side, walks, end, new int[] {35001, 1}, false), -1);
        CHECKS.stands("about 35000", walks, turnedX(side, 30000, 1), turnedY(side, 30000, 1), 1);
    }
}

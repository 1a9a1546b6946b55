/** Terms: 'An arc that has no neighbour to go to, or is not there within 40000 ticks, is refused: it stays'. */
public final class EdgeRefusedArcTest {
    private static final Checks CHECKS = new Checks();

    public static void main(String[] args) {
        for (Before before : Before.ALL) {
            CHECKS.due(before.name() + ": the reads", Told.all(before.made().get()), before.told());
            for (boolean left : new boolean[] {true, false}) {
                for (int radius : new int[] {1, 20, 150, 5000}) {
                    neverThere(before, radius, left);
                }
                noNeighbour(before, left);
            }
        }
        placesBehindARefusal();
        walksOnBehindARefusal();
        CHECKS.end();
    }

    // The centre lies beside the beginning, towards 0 0: the ends are the centre, one place farther in
    // and one farther out than the beginning, and one far away.
    private static void neverThere(Before before, int radius, boolean left) {
        TickWalks asked = before.made().get();
        int x = asked.at(0);
        int y = asked.at(1);
        int in = x > 0 ? -1 : 1;
        int cx = x + in * radius;
        int outwards = Math.max(-30000, Math.min(30000, x - in));
        String name = "an arc of " + radius + (left ? " left" : " right");
        refused(before, name + " to its centre", cx, y, cx, y, left);
        refused(before, name + " to farther in", x + in, y, cx, y, left);
        if (outwards != x) {
            refused(before, name + " to farther out", outwards, y, cx, y, left);
        }
        refused(before, name + " to far away", x > 0 ? -30000 : 30000, y, cx, y, left);
    }

    private static void refused(Before before, String call, int x, int y, int cx, int cy, boolean left) {
        before.unchanged(CHECKS, call, walks -> walks.arc(x, y, cx, cy, left), -1);
    }

    // At the centre itself no neighbour is on the left or on the right.
    private static void noNeighbour(Before before, boolean left) {
        before.unchanged(CHECKS, "an arc about where it stands",
            walks -> walks.arc(walks.at(0) + 1, walks.at(1), walks.at(0), walks.at(1), left), -1);
    }

    // The refused arc goes over more ticks than the one before it, so that it would overwrite all its places.
    private static void placesBehindARefusal() {
        PlainModel model = new PlainModel();
        model.place(300, 0, 4);
        model.arc(300, 0, 0, 0, true);
        TickWalks walks = Checks.at(300, 0, 4);
        CHECKS.due("circle of 300", walks.arc(300, 0, 0, 0, true), model.ticks());
        CHECKS.due("refused circle of 4000", walks.arc(0, 0, -3700, 0, false), -1);
        CHECKS.due("refused circle of 4001", walks.arc(0, 0, 4301, 0, true), -1);
        for (int k = 0; k <= model.ticks(); k += 17) {
            CHECKS.tickIs("places behind a refusal", walks, k, model.tick(k, 0), model.tick(k, 1), 4);
        }
        CHECKS.due("behind a refusal: off()", walks.off(), model.off());
    }

    private static void walksOnBehindARefusal() {
        TickWalks walks = Checks.at(3, 0, 4);
        CHECKS.due("refused", walks.arc(0, 0, 0, 0, true), -1);
        CHECKS.due("an arc behind a refusal", walks.arc(0, 3, 0, 0, true), 4);
        CHECKS.tickIs("an arc behind a refusal", walks, 0, 3, 0, 4);
        CHECKS.due("refused", walks.arc(0, 0, 0, 0, true), -1);
        CHECKS.due("a line behind a refusal", walks.line(0, 5, 4), 2);
        CHECKS.tickIs("a line behind a refusal", walks, 0, 0, 3, 4);
        CHECKS.due("refused", walks.arc(0, 0, 0, 0, true), -1);
        CHECKS.due("a place behind a refusal", walks.place(1, 1, 1), true);
        CHECKS.nothingWalked("a place behind a refusal", walks);
    }
}

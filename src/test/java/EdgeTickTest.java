/** Promise 5: '0: its beginning', the last tick, and those beside them; '0 if there is none, or for another axis'. */
public final class EdgeTickTest {
    private static final int[] OTHER_AXES = {Integer.MIN_VALUE, -1, 3, 4, Integer.MAX_VALUE};
    private static final int[] NO_TICKS = {Integer.MIN_VALUE, -100, -1, 60001, Integer.MAX_VALUE};
    private static final Checks CHECKS = new Checks();

    public static void main(String[] args) {
        for (Before before : Before.ALL) {
            CHECKS.due(before.name() + ": the reads", Told.all(before.made().get()), before.told());
            noSuchTick(before);
            otherAxis(before);
        }
        endsOf("line", Checks.at(-50, 60, -70), -54, 58, -69);
        endsOf("longest line", Checks.at(-30000, 30000, 30000), 30000, -30000, 29999);
        endsOfAnArc();
        lastTicksBesideAHundred();
        CHECKS.end();
    }

    private static void noSuchTick(Before before) {
        TickWalks walks = before.made().get();
        int last = walks.ticks();
        for (int k : NO_TICKS) {
            CHECKS.tickIs(before.name(), walks, k, 0, 0, 0);
        }
        CHECKS.tickIs(before.name() + ": behind the last", walks, last + 1, 0, 0, 0);
        CHECKS.tickIs(before.name() + ": behind the last", walks, last + 2, 0, 0, 0);
        CHECKS.tickIs(before.name() + ": behind the last", walks, last + 100, 0, 0, 0);
    }

    private static void otherAxis(Before before) {
        TickWalks walks = before.made().get();
        int last = walks.ticks();
        for (int axis : OTHER_AXES) {
            for (int k : new int[] {-1, 0, 1, last, last + 1}) {
                CHECKS.due(before.name() + ": tick(" + k + ", " + axis + ")", walks.tick(k, axis), 0);
            }
        }
    }

    private static void endsOf(String name, TickWalks walks, int x, int y, int z) {
        int fromX = walks.at(0);
        int fromY = walks.at(1);
        int fromZ = walks.at(2);
        int last = walks.line(x, y, z);
        CHECKS.tickIs(name + ": before its beginning", walks, -1, 0, 0, 0);
        CHECKS.tickIs(name + ": its beginning", walks, 0, fromX, fromY, fromZ);
        CHECKS.tickIs(name + ": the last", walks, last, x, y, z);
        CHECKS.tickIs(name + ": behind the last", walks, last + 1, 0, 0, 0);
    }

    private static void endsOfAnArc() {
        for (boolean left : new boolean[] {true, false}) {
            TickWalks walks = Checks.at(20, 100, -7);
            int last = walks.arc(0, 120, 0, 100, left);
            CHECKS.due("arc", last, left ? 28 : 84);
            CHECKS.tickIs("arc: before its beginning", walks, -1, 0, 0, 0);
            CHECKS.tickIs("arc: its beginning", walks, 0, 20, 100, -7);
            CHECKS.tickIs("arc: the first", walks, 1, 20, left ? 101 : 99, -7);
            CHECKS.tickIs("arc: one before the last", walks, last - 1, left ? 1 : -1, 120, -7);
            CHECKS.tickIs("arc: the last", walks, last, 0, 120, -7);
            CHECKS.tickIs("arc: behind the last", walks, last + 1, 0, 0, 0);
        }
    }

    // Arcs of 98 to 103 and of 198 to 203 ticks: every hundredth place is kept, and those beside it are walked to.
    private static void lastTicksBesideAHundred() {
        PlainModel whole = new PlainModel();
        whole.place(0, 90, 3);
        whole.arc(0, 90, 0, 0, false);
        for (int last = 98; last <= 203; last = last == 103 ? 198 : last + 1) {
            int x = whole.tick(last, 0);
            int y = whole.tick(last, 1);
            TickWalks walks = Checks.at(0, 90, 3);
            CHECKS.due("an arc of " + last + " ticks", walks.arc(x, y, 0, 0, false), last);
            for (int k = last - 5; k <= last; k++) {
                CHECKS.tickIs("an arc of " + last + " ticks", walks, k, whole.tick(k, 0), whole.tick(k, 1), 3);
            }
            CHECKS.tickIs("an arc of " + last + " ticks", walks, last + 1, 0, 0, 0);
        }
    }
}

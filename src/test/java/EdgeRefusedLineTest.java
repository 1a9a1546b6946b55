/** Promise 3: '-1 (it stays) if a number is none', with what was walked before it still there. */
public final class EdgeRefusedLineTest {
    private static final int[] NONE = {Integer.MIN_VALUE, -40000, -30001, 30001, 40000, Integer.MAX_VALUE};
    private static final Checks CHECKS = new Checks();

    public static void main(String[] args) {
        for (Before before : Before.ALL) {
            for (int none : NONE) {
                refused(before, none, 1, 2);
                refused(before, 1, none, 2);
                refused(before, 1, 2, none);
                refused(before, none, none, none);
            }
            walksOn(before);
        }
        CHECKS.end();
    }

    private static void refused(Before before, int x, int y, int z) {
        before.unchanged(CHECKS, "line(" + x + ", " + y + ", " + z + ")", walks -> walks.line(x, y, z), -1);
    }

    // The next line begins where it stood before the refused one.
    private static void walksOn(Before before) {
        TickWalks walks = before.made().get();
        int x = walks.at(0);
        int y = walks.at(1);
        int z = walks.at(2);
        walks.line(x, 30001, z);
        CHECKS.due(before.name() + ": a line behind a refusal", walks.line(x, y - 5, z - 2), 5);
        CHECKS.tickIs(before.name() + ": a line behind a refusal", walks, 0, x, y, z);
        CHECKS.tickIs(before.name() + ": a line behind a refusal", walks, 5, x, y - 5, z - 2);
    }
}

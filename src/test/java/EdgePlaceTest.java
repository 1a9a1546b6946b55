/** Promise 2: 'nothing walked'; 'false if a number is none'. */
public final class EdgePlaceTest {
    private static final int[] NONE = {Integer.MIN_VALUE, -40000, -30001, 30001, 40000, Integer.MAX_VALUE};
    private static final Checks CHECKS = new Checks();

    public static void main(String[] args) {
        for (Before before : Before.ALL) {
            nothingWalked(before);
            for (int none : NONE) {
                refused(before, none, 1, 2);
                refused(before, 1, none, 2);
                refused(before, 1, 2, none);
                refused(before, none, none, none);
            }
        }
        CHECKS.end();
    }

    private static void nothingWalked(Before before) {
        TickWalks away = before.made().get();
        CHECKS.due(before.name() + ": place(-1, 30000, -30000)", away.place(-1, 30000, -30000), true);
        CHECKS.due(before.name() + ", then placed away", Told.all(away), "at -1 30000 -30000" + Before.NOTHING);

        TickWalks there = before.made().get();
        int x = there.at(0);
        int y = there.at(1);
        int z = there.at(2);
        CHECKS.due(before.name() + ": place where it stands", there.place(x, y, z), true);
        CHECKS.due(before.name() + ", then placed where it stands", Told.all(there),
            "at " + x + " " + y + " " + z + Before.NOTHING);

        CHECKS.due(before.name() + ", placed: refused line", there.line(x, y, 30001), -1);
        CHECKS.due(before.name() + ", placed: refused arc", there.arc(x, y, x, y, true), -1);
        CHECKS.due(before.name() + ", placed, then refused", Told.all(there),
            "at " + x + " " + y + " " + z + Before.NOTHING);
    }

    private static void refused(Before before, int x, int y, int z) {
        before.unchanged(CHECKS, "place(" + x + ", " + y + ", " + z + ")", walks -> walks.place(x, y, z), false);
    }
}

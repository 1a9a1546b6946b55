/** Promise 7: where it stands after each kind of call, refused ones too. */
public final class EdgeAtTest {
    private static final int[] OTHER_AXES = {Integer.MIN_VALUE, -1, 3, Integer.MAX_VALUE};
    private static final Checks CHECKS = new Checks();

    public static void main(String[] args) {
        for (Before before : Before.ALL) {
            afterWalks(before);
            afterRefusedCalls(before);
            afterReads(before);
        }
        CHECKS.end();
    }

    private static void afterWalks(Before before) {
        TickWalks walks = before.made().get();
        walks.place(-11, 22, -33);
        CHECKS.stands(before.name() + ", place", walks, -11, 22, -33);
        walks.line(30000, -30000, 30000);
        CHECKS.stands(before.name() + ", line", walks, 30000, -30000, 30000);
        walks.line(30000, -30000, 30000);
        CHECKS.stands(before.name() + ", line of no tick", walks, 30000, -30000, 30000);
        walks.arc(30000, -30000, 30000, -29990, true);
        CHECKS.stands(before.name() + ", whole circle", walks, 30000, -30000, 30000);
        walks.arc(29990, -29990, 30000, -29990, false);
        CHECKS.stands(before.name() + ", arc", walks, 29990, -29990, 30000);
        walks.arc(30000, -30000, 30000, -29990, true);
        CHECKS.stands(before.name() + ", arc back", walks, 30000, -30000, 30000);
    }

    private static void afterRefusedCalls(Before before) {
        TickWalks walks = before.made().get();
        int x = walks.at(0);
        int y = walks.at(1);
        int z = walks.at(2);
        walks.place(1, 1, 30001);
        CHECKS.stands(before.name() + ", refused place", walks, x, y, z);
        walks.line(1, -30001, 1);
        CHECKS.stands(before.name() + ", refused line", walks, x, y, z);
        walks.arc(30001, 1, x, y - 3, true);
        CHECKS.stands(before.name() + ", refused arc, no place", walks, x, y, z);
        walks.arc(1, 1, 40001, y, true);
        CHECKS.stands(before.name() + ", refused arc, no centre", walks, x, y, z);
        walks.arc(1, 1, x, y, true);
        CHECKS.stands(before.name() + ", refused arc, no R2", walks, x, y, z);
        walks.arc(x, y - 3, x, y - 3, false);
        CHECKS.stands(before.name() + ", refused arc, never there", walks, x, y, z);
    }

    // The document is silent on at() of another axis; 0 is what it asks of tick().
    private static void afterReads(Before before) {
        TickWalks walks = before.made().get();
        int x = walks.at(0);
        int y = walks.at(1);
        int z = walks.at(2);
        Told.all(walks);
        for (int axis : OTHER_AXES) {
            CHECKS.due(before.name() + ": at(" + axis + ")", walks.at(axis), 0);
        }
        CHECKS.stands(before.name() + ", reads", walks, x, y, z);
    }
}

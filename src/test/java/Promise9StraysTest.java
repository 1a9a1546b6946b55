public final class Promise9StraysTest {
    private static final Checks CHECKS = new Checks();

    public static void main(String[] args) {
        TickWalks walks = new TickWalks();
        neverAStray("new", walks);
        walks.line(100, -37, 99);
        neverAStray("line", walks);
        walks.line(100, -37, 99);
        neverAStray("line to where it stands", walks);
        walks.line(30001, 0, 0);
        neverAStray("refused line", walks);
        walks.place(-30000, 30000, -30000);
        neverAStray("place", walks);
        walks.line(30000, -30000, 29999);
        neverAStray("edge to edge", walks);
        walks.line(29999, 1, 0);
        neverAStray("steep line", walks);
        walks.place(1, 0, 0);
        walks.arc(1, 0, 0, 0, true);
        neverAStray("R2 1", walks);
        walks.arc(0, 0, 0, 0, true);
        neverAStray("refused arc", walks);
        walks.place(0, 5000, 0);
        walks.arc(0, 5000, 0, 0, false);
        neverAStray("R2 25000000", walks);
        CHECKS.end();
    }

    // The count is made from the ticks too: a walk that strayed would make this test fail as well.
    private static void neverAStray(String when, TickWalks walks) {
        int found = 0;
        for (int k = 1; k <= walks.ticks(); k++) {
            int most = 0;
            for (int axis = 0; axis < 3; axis++) {
                most = Math.max(most, Math.abs(walks.tick(k, axis) - walks.tick(k - 1, axis)));
            }
            if (most != 1) {
                found++;
            }
        }
        CHECKS.due(when + ": strays found in its ticks", found, 0);
        CHECKS.due(when + ": strays()", walks.strays(), 0);
        CHECKS.due(when + ": strays() again", walks.strays(), 0);
    }
}

/** Promises 6, 8 and 9: with nothing walked, after a line of no tick, after a refused call; 'off .. 0 for a line'. */
public final class EdgeReadsTest {
    private static final Checks CHECKS = new Checks();

    public static void main(String[] args) {
        numbers("nothing walked", new TickWalks(), 0, 0);
        numbers("placed", Checks.at(30000, -30000, 1), 0, 0);
        afterALineOfNoTick();
        zeroForALine();
        for (Before before : Before.ALL) {
            afterRefusedCalls(before);
        }
        afterAGreaterArc();
        CHECKS.end();
    }

    private static void numbers(String when, TickWalks walks, int ticks, int off) {
        for (String time : new String[] {"", " again"}) {
            CHECKS.due(when + ": ticks()" + time, walks.ticks(), ticks);
            CHECKS.due(when + ": off()" + time, walks.off(), off);
            CHECKS.due(when + ": strays()" + time, walks.strays(), 0);
        }
    }

    private static void afterALineOfNoTick() {
        for (Before before : Before.ALL) {
            TickWalks walks = before.made().get();
            CHECKS.due(before.name() + ": a line of no tick", walks.line(walks.at(0), walks.at(1), walks.at(2)), 0);
            numbers(before.name() + ", a line of no tick", walks, 0, 0);
        }
    }

    private static void zeroForALine() {
        TickWalks walks = Checks.at(20, 0, 0);
        CHECKS.due("arc", walks.arc(20, 0, 0, 0, true), 112);
        numbers("arc", walks, 112, 16);
        CHECKS.due("line after an arc", walks.line(3, 0, 9), 17);
        numbers("line after an arc", walks, 17, 0);
        CHECKS.due("arc after a line", walks.arc(0, 3, 0, 0, true), 4);
        numbers("arc after a line", walks, 4, 1);
        CHECKS.due("longest line", walks.place(-30000, 30000, 5) ? walks.line(30000, 1, 6) : -2, 60000);
        numbers("longest line", walks, 60000, 0);
    }

    private static void afterRefusedCalls(Before before) {
        before.unchanged(CHECKS, "refused place", walks -> walks.place(0, 0, -30001), false);
        before.unchanged(CHECKS, "refused line", walks -> walks.line(0, -30001, 0), -1);
        before.unchanged(CHECKS, "refused arc, no number", walks -> walks.arc(30001, 0, 0, 0, true), -1);
        before.unchanged(CHECKS, "refused arc, no R2",
            walks -> walks.arc(walks.at(0), walks.at(1), walks.at(0), walks.at(1), true), -1);
        before.unchanged(CHECKS, "refused arc, never there", EdgeReadsTest::neverThere, -1);
    }

    // An arc of 181 to its own centre: its places lie up to 177 beside R2, more than those of any walk before it.
    private static int neverThere(TickWalks walks) {
        int cx = walks.at(0);
        int cy = walks.at(1) + (walks.at(1) > 0 ? -181 : 181);
        return walks.arc(cx, cy, cx, cy, true);
    }

    // The greatest amount is that of the latest alone.
    private static void afterAGreaterArc() {
        TickWalks walks = Checks.at(0, 20, 0);
        CHECKS.due("arc", walks.arc(0, 20, 0, 0, false), 112);
        for (int times = 0; times < 3; times++) {
            CHECKS.due("arc of one tick", walks.arc(1, 20, 0, 0, false), 1);
            numbers("arc of one tick", walks, 1, 1);
            CHECKS.due("back", walks.arc(0, 20, 0, 0, true), 1);
            numbers("back", walks, 1, 1);
            CHECKS.due("refused arc", neverThere(walks), -1);
            numbers("refused arc", walks, 1, 1);
        }
    }
}

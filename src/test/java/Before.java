import java.util.List;
import java.util.function.Function;
import java.util.function.Supplier;

/** What may have been done before a call, with all that the reads must tell of it. */
record Before(String name, Supplier<TickWalks> made, String told) {
    static final String NOTHING = ", ticks 0, off 0, strays 0, from 0 0 0 by 0 0 0 to 0 0 0, beside 0 0 0 and 0 0 0";

    static final Before NEW = new Before("new", TickWalks::new, "at 0 0 0" + NOTHING);
    static final Before PLACED = new Before("placed", () -> Checks.at(11, -12, 13), "at 11 -12 13" + NOTHING);
    static final Before LINE = new Before("after a line", () -> line(4, 5, 6, 7, 5, 4),
        "at 7 5 4, ticks 3, off 0, strays 0, from 4 5 6 by 5 5 5 to 7 5 4, beside 0 0 0 and 0 0 0");
    static final Before NO_TICK = new Before("after a line of no tick", () -> line(8, -9, 10, 8, -9, 10),
        "at 8 -9 10, ticks 0, off 0, strays 0, from 8 -9 10 by 0 0 0 to 8 -9 10, beside 0 0 0 and 0 0 0");
    static final Before LONGEST = new Before("after the longest line",
        () -> line(30000, -30000, 30000, -30000, 30000, 29999),
        "at -30000 30000 29999, ticks 60000, off 0, strays 0,"
            + " from 30000 -30000 30000 by 29999 -29999 30000 to -30000 30000 29999, beside 0 0 0 and 0 0 0");
    static final Before ARC = new Before("after an arc", () -> arc(53, 60, 70, 50, 63, 50, 60, true),
        "at 50 63 70, ticks 4, off 1, strays 0, from 53 60 70 by 53 61 70 to 50 63 70, beside 0 0 0 and 0 0 0");
    static final Before CIRCLE = new Before("after a whole circle", () -> arc(20, 0, 7, 20, 0, 0, 0, false),
        "at 20 0 7, ticks 112, off 16, strays 0, from 20 0 7 by 20 -1 7 to 20 0 7, beside 0 0 0 and 0 0 0");

    static final List<Before> ALL = List.of(NEW, PLACED, LINE, NO_TICK, LONGEST, ARC, CIRCLE);

    static TickWalks line(int fromX, int fromY, int fromZ, int x, int y, int z) {
        TickWalks walks = Checks.at(fromX, fromY, fromZ);
        walks.line(x, y, z);
        return walks;
    }

    static TickWalks arc(int fromX, int fromY, int fromZ, int x, int y, int cx, int cy, boolean left) {
        TickWalks walks = Checks.at(fromX, fromY, fromZ);
        walks.arc(x, y, cx, cy, left);
        return walks;
    }

    /** The call is answered as due, and all that the reads tell is as it was before it. */
    void unchanged(Checks checks, String call, Function<TickWalks, Object> asked, Object answer) {
        TickWalks walks = made.get();
        String got = String.valueOf(asked.apply(walks));
        checks.due(name + ": " + call, got, String.valueOf(answer));
        if (!got.equals(String.valueOf(answer))) {
            // A line that should have been refused may have so many ticks that strays() does not come to an end.
            return;
        }
        checks.due(name + ", then " + call + ": the reads", Told.all(walks), told);
    }
}

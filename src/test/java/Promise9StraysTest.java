import java.util.List;
import java.util.function.Supplier;

public final class Promise9StraysTest {
    private static final Checks CHECKS = new Checks();

    public static void main(String[] args) {
        neverAStray("new", TickWalks::new);
        neverAStray("line", () -> Before.line(0, 0, 0, 100, -37, 99));
        neverAStray("edge to edge", () -> Before.line(-30000, 30000, -30000, 30000, -30000, 29999));
        neverAStray("steep line", () -> Before.line(30000, -30000, 29999, 29999, 1, 0));
        neverAStray("R2 1", () -> Before.arc(1, 0, 0, 1, 0, 0, 0, true));
        neverAStray("R2 25000000", () -> Before.arc(0, 5000, 0, 0, 5000, 0, 0, false));
        for (Before before : Before.ALL) {
            neverAStray(before.name(), before.made());
            neverAStray(before.name() + ", then refused", () -> refused(before.made().get()));
        }
        CHECKS.end();
    }

    private static TickWalks refused(TickWalks walks) {
        CHECKS.due("refused line", walks.line(30001, 0, 0), -1);
        CHECKS.due("refused arc", walks.arc(0, 0, walks.at(0), walks.at(1), true), -1);
        return walks;
    }

    // The count is made from the ticks too: a walk that strayed would make this test fail as well.
    private static void neverAStray(String when, Supplier<TickWalks> made) {
        int found = 0;
        List<int[]> places = Told.places(made);
        for (int k = 1; k < places.size(); k++) {
            int most = 0;
            for (int axis = 0; axis < 3; axis++) {
                most = Math.max(most, Math.abs(places.get(k)[axis] - places.get(k - 1)[axis]));
            }
            if (most != 1) {
                found++;
            }
        }
        CHECKS.due(when + ": strays found in its ticks", found, 0);
        TickWalks walks = made.get();
        CHECKS.due(when + ": strays()", walks.strays(), 0);
        CHECKS.due(when + ": strays() again", walks.strays(), 0);
    }
}

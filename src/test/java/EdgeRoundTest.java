import java.util.List;

/** Terms: 'till it is at the told end, behind at least one tick': an end that is the beginning. */
public final class EdgeRoundTest {
    private static final Checks CHECKS = new Checks();

    public static void main(String[] args) {
        round(1, 0, 0, 0, 4);
        round(2, 0, 0, 0, 12);
        round(3, 0, 0, 0, 16);
        round(0, -20, 0, 0, 112);
        round(30000, 30000, 29990, 30000, 56);
        round(-3000, 4000, 0, 0, 28284);
        everySmallRound();
        roundAgain();
        oneTickAndAllButOne();
        CHECKS.end();
    }

    private static void round(int x, int y, int cx, int cy, int ticks) {
        for (boolean left : new boolean[] {true, false}) {
            String name = "round from " + x + " " + y + (left ? " left" : " right");
            TickWalks walks = Checks.at(x, y, -5);
            CHECKS.due(name, walks.arc(x, y, cx, cy, left), ticks);
            CHECKS.due(name + ": ticks()", walks.ticks(), ticks);
            CHECKS.stands(name, walks, x, y, -5);
            CHECKS.tickIs(name, walks, 0, x, y, -5);
            CHECKS.tickIs(name, walks, ticks, x, y, -5);
            CHECKS.tickIs(name, walks, ticks + 1, 0, 0, 0);
            CHECKS.due(name + ": moved by tick 1", walks.tick(1, 0) != x || walks.tick(1, 1) != y, true);
        }
    }

    private static void everySmallRound() {
        for (int x = -12; x <= 12; x++) {
            for (int y = -12; y <= 12; y++) {
                if (x != 0 || y != 0) {
                    PlainModel model = new PlainModel();
                    model.place(x, y, 0);
                    round(x, y, 0, 0, model.arc(x, y, 0, 0, true));
                }
            }
        }
    }

    private static void roundAgain() {
        TickWalks walks = Checks.at(0, 3, 0);
        for (int times = 0; times < 5; times++) {
            CHECKS.due("round again", walks.arc(0, 3, 0, 0, times % 2 == 0), 16);
        }
    }

    // The place of the first tick as the end: one tick on the one hand, all but one on the other.
    private static void oneTickAndAllButOne() {
        TickWalks walks = Checks.at(20, 0, 0);
        CHECKS.due("one tick", walks.arc(20, 1, 0, 0, true), 1);
        CHECKS.tickIs("one tick", walks, 0, 20, 0, 0);
        CHECKS.tickIs("one tick", walks, 1, 20, 1, 0);
        List<int[]> places = Told.places(() -> Before.arc(20, 0, 0, 20, 1, 0, 0, false));
        CHECKS.due("all but one", places.size() - 1, 111);
        CHECKS.due("all but one: beginning is passed once",
            places.stream().filter(p -> p[0] == 20 && p[1] == 0).count(), 1);
    }
}

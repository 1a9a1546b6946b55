import java.util.List;

public final class Promise5TickTest {
    private static final int[] OTHER_AXES = {-1, 3, 4, Integer.MAX_VALUE, Integer.MIN_VALUE};
    private static final Checks CHECKS = new Checks();

    public static void main(String[] args) {
        ofNothing();
        ofALine();
        ofAnArc();
        ofALongArcInAnyOrder();
        ofTheLatest();
        CHECKS.end();
    }

    private static void zeroElsewhere(String when, TickWalks walks) {
        int last = walks.ticks();
        for (int axis = 0; axis < 3; axis++) {
            CHECKS.due(when + ": tick -1", walks.tick(-1, axis), 0);
            CHECKS.due(when + ": tick behind the last", walks.tick(last + 1, axis), 0);
            CHECKS.due(when + ": tick 40001", walks.tick(40001, axis), 0);
            CHECKS.due(when + ": greatest tick", walks.tick(Integer.MAX_VALUE, axis), 0);
            CHECKS.due(when + ": least tick", walks.tick(Integer.MIN_VALUE, axis), 0);
        }
        for (int axis : OTHER_AXES) {
            CHECKS.due(when + ": axis " + axis, walks.tick(0, axis), 0);
            CHECKS.due(when + ": axis " + axis, walks.tick(1, axis), 0);
            CHECKS.due(when + ": axis " + axis, walks.tick(last, axis), 0);
        }
    }

    private static void ofNothing() {
        TickWalks walks = new TickWalks();
        zeroElsewhere("new", walks);
        walks.place(11, 12, 13);
        CHECKS.tickIs("placed", walks, 0, 0, 0, 0);
        zeroElsewhere("placed", walks);
    }

    private static void ofALine() {
        TickWalks walks = Checks.at(50, 60, 70);
        walks.line(54, 58, 71);
        CHECKS.tickIs("line", walks, 0, 50, 60, 70);
        CHECKS.tickIs("line", walks, 1, 51, 60, 70);
        CHECKS.tickIs("line", walks, 2, 52, 59, 71);
        CHECKS.tickIs("line", walks, 3, 53, 59, 71);
        CHECKS.tickIs("line", walks, 4, 54, 58, 71);
        zeroElsewhere("line", walks);
    }

    private static void ofAnArc() {
        TickWalks walks = Checks.at(53, 60, 70);
        CHECKS.due("arc", walks.arc(50, 63, 50, 60, true), 4);
        CHECKS.tickIs("arc", walks, 0, 53, 60, 70);
        CHECKS.tickIs("arc", walks, 1, 53, 61, 70);
        CHECKS.tickIs("arc", walks, 2, 52, 62, 70);
        CHECKS.tickIs("arc", walks, 3, 51, 63, 70);
        CHECKS.tickIs("arc", walks, 4, 50, 63, 70);
        zeroElsewhere("arc", walks);
    }

    private static void ofALongArcInAnyOrder() {
        PlainModel model = new PlainModel();
        model.place(-4000, 3000, -9);
        int last = model.arc(-4000, 3000, 0, 0, false);
        List<int[]> places = Told.places(() -> Before.arc(-4000, 3000, -9, -4000, 3000, 0, 0, false));
        CHECKS.due("long arc: places", places.size(), last + 1);
        for (int k = 0; k < places.size(); k++) {
            int[] place = places.get(k);
            CHECKS.due("long arc: x behind tick " + k, place[0], model.tick(k, 0));
            CHECKS.due("long arc: y behind tick " + k, place[1], model.tick(k, 1));
            CHECKS.due("long arc: z behind tick " + k, place[2], -9);
        }
        TickWalks walks = Before.arc(-4000, 3000, -9, -4000, 3000, 0, 0, false);
        for (int i = 0; i < 120; i++) {
            int k = i % 2 == 0 ? i * 199 : last - i * 101;
            CHECKS.tickIs("long arc", walks, k, model.tick(k, 0), model.tick(k, 1), -9);
        }
        zeroElsewhere("long arc", walks);
    }

    private static void ofTheLatest() {
        TickWalks walks = Checks.at(3, 0, 0);
        walks.arc(0, 3, 0, 0, true);
        walks.line(0, 5, 1);
        CHECKS.tickIs("a line after an arc", walks, 1, 0, 4, 1);
        walks.arc(5, 0, 0, 0, false);
        CHECKS.tickIs("an arc after a line", walks, 0, 0, 5, 1);
        walks.arc(0, -5, 0, 0, false);
        CHECKS.tickIs("an arc after an arc", walks, 0, 5, 0, 1);
        CHECKS.due("refused", walks.arc(0, 0, 0, 0, false), -1);
        CHECKS.due("refused", walks.line(0, -30001, 0), -1);
        CHECKS.tickIs("refused after an arc", walks, 0, 5, 0, 1);
        CHECKS.tickIs("refused after an arc", walks, walks.ticks(), 0, -5, 1);
    }
}

import java.util.List;

public final class Promise8OffTest {
    private static final Checks CHECKS = new Checks();

    public static void main(String[] args) {
        ordinary();
        sameAsMeasured(5000, 0, 0, 0, true);
        sameAsMeasured(-2999, 3999, 1, -1, false);
        sameAsMeasured(123, -456, 7, 8, true);
        sameAsMeasured(1, 0, 0, 0, true);
        CHECKS.end();
    }

    private static void ordinary() {
        TickWalks walks = new TickWalks();
        CHECKS.due("new: off()", walks.off(), 0);
        walks.line(2, 0, 0);
        CHECKS.due("line: off()", walks.off(), 0);
        walks.arc(2, 1, 0, 0, true);
        CHECKS.due("arc to 2 1, square 5 beside 4: off()", walks.off(), 1);
        walks.arc(0, 0, 0, 0, true);
        CHECKS.due("refused arc: off()", walks.off(), 1);
        walks.line(2, 1, 30001);
        CHECKS.due("refused line: off()", walks.off(), 1);
        walks.line(1, 0, 0);
        CHECKS.due("line after an arc: off()", walks.off(), 0);
        walks.arc(-1, 0, 0, 0, true);
        CHECKS.due("R2 1: off()", walks.off(), 0);
        walks.line(0, 20, 0);
        walks.arc(0, 20, 0, 0, false);
        CHECKS.due("R2 400: off()", walks.off(), 16);
        walks.arc(1, 20, 0, 0, false);
        CHECKS.due("a smaller one after a greater one: off()", walks.off(), 1);
        walks.place(1, 20, 0);
        CHECKS.due("place: off()", walks.off(), 0);
    }

    private static void sameAsMeasured(int x, int y, int cx, int cy, boolean left) {
        long square = square(x - cx, y - cy);
        long greatest = 0;
        List<int[]> places = Told.places(() -> Before.arc(x, y, 0, x, y, cx, cy, left));
        CHECKS.due("the circle from " + x + " " + y + " is walked", places.size() > 4, true);
        for (int[] place : places) {
            long here = square(place[0] - cx, place[1] - cy);
            greatest = Math.max(greatest, Math.abs(here - square));
        }
        TickWalks walks = Before.arc(x, y, 0, x, y, cx, cy, left);
        CHECKS.due("off() of the circle from " + x + " " + y, walks.off(), greatest);
    }

    private static long square(long dx, long dy) {
        return dx * dx + dy * dy;
    }
}

import java.util.ArrayList;
import java.util.List;

/** The document's words in their plainest form: every place of the latest walk is kept in a list. */
final class PlainModel {
    private static final String[] NAMES = {"E", "NE", "N", "NW", "W", "SW", "S", "SE"};

    private int[] stand = {0, 0, 0};
    private List<int[]> places = new ArrayList<>();
    private long off = 0;

    boolean place(int x, int y, int z) {
        if (none(x, 30000) || none(y, 30000) || none(z, 30000)) {
            return false;
        }
        stand = new int[] {x, y, z};
        places = new ArrayList<>();
        off = 0;
        return true;
    }

    int line(int x, int y, int z) {
        if (none(x, 30000) || none(y, 30000) || none(z, 30000)) {
            return -1;
        }
        int[] end = {x, y, z};
        long n = 0;
        for (int axis = 0; axis < 3; axis++) {
            n = Math.max(n, Math.abs(end[axis] - stand[axis]));
        }
        places = new ArrayList<>();
        places.add(stand.clone());
        for (long k = 1; k <= n; k++) {
            int[] next = new int[3];
            for (int axis = 0; axis < 3; axis++) {
                long above = 2L * (end[axis] - stand[axis]) * k + n;
                long below = 2 * n;
                long cut = above / below;
                if (above % below < 0) {
                    cut--;
                }
                next[axis] = stand[axis] + (int) cut;
            }
            places.add(next);
        }
        stand = end;
        off = 0;
        return (int) n;
    }

    int arc(int x, int y, int cx, int cy, boolean left) {
        if (none(x, 30000) || none(y, 30000) || none(cx, 40000) || none(cy, 40000)) {
            return -1;
        }
        long r2 = square(stand, cx, cy);
        if (r2 < 1 || r2 > 25000000) {
            return -1;
        }
        List<int[]> walked = new ArrayList<>();
        walked.add(stand.clone());
        long greatest = 0;
        int[] p = stand;
        for (int k = 1; k <= 40000; k++) {
            p = nearest(p, cx, cy, left, r2);
            if (p == null) {
                return -1;
            }
            walked.add(p);
            greatest = Math.max(greatest, Math.abs(square(p, cx, cy) - r2));
            if (p[0] == x && p[1] == y) {
                places = walked;
                stand = p.clone();
                off = greatest;
                return k;
            }
        }
        return -1;
    }

    int tick(int k, int axis) {
        return k < 0 || k >= places.size() || axis < 0 || axis > 2 ? 0 : places.get(k)[axis];
    }

    int ticks() {
        return Math.max(0, places.size() - 1);
    }

    int at(int axis) {
        return axis < 0 || axis > 2 ? 0 : stand[axis];
    }

    int off() {
        return (int) off;
    }

    int strays() {
        int count = 0;
        for (int k = 1; k < places.size(); k++) {
            boolean far = false;
            boolean moved = false;
            for (int axis = 0; axis < 3; axis++) {
                int step = Math.abs(places.get(k)[axis] - places.get(k - 1)[axis]);
                far |= step > 1;
                moved |= step > 0;
            }
            if (far || !moved) {
                count++;
            }
        }
        return count;
    }

    private static int[] nearest(int[] p, int cx, int cy, boolean left, long r2) {
        int[] best = null;
        for (String name : NAMES) {
            int[] q = p.clone();
            q[0] += (name.contains("E") ? 1 : 0) - (name.contains("W") ? 1 : 0);
            q[1] += (name.contains("N") ? 1 : 0) - (name.contains("S") ? 1 : 0);
            long cross = (long) (p[0] - cx) * (q[1] - cy) - (long) (p[1] - cy) * (q[0] - cx);
            boolean may = left ? cross > 0 : cross < 0;
            if (may && (best == null
                    || Math.abs(square(q, cx, cy) - r2) < Math.abs(square(best, cx, cy) - r2))) {
                best = q;
            }
        }
        return best;
    }

    private static long square(int[] p, int cx, int cy) {
        long dx = (long) p[0] - cx;
        long dy = (long) p[1] - cy;
        return dx * dx + dy * dy;
    }

    private static boolean none(int number, int farthest) {
        return number < -farthest || number > farthest;
    }
}

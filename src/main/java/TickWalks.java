/** Walks of a tool over whole places, tick by tick: lines on three axes at once, and arcs by neighbours. */
public final class TickWalks {
    private static final int AXES = 3;
    private static final int X = 0;
    private static final int Y = 1;
    private static final int Z = 2;

    private static final int FARTHEST_PLACE = 30000;
    private static final int FARTHEST_CENTRE = 40000;
    private static final long LEAST_SQUARE = 1;
    private static final long GREATEST_SQUARE = 25000000;
    private static final int MOST_ARC_TICKS = 40000;
    private static final int REFUSED = -1;

    // An arc keeps only every hundredth place and walks on from there when it is asked for another:
    // a row of all its places would take a hundred times the room.
    private static final int MARK_SPACING = 100;
    private static final int MARKS = MOST_ARC_TICKS / MARK_SPACING + 1;

    // E NE N NW W SW S SE: of equally near neighbours the first in this order is taken.
    private static final int NEIGHBOURS = 8;
    private static final int[] STEP_X = {1, 1, 0, -1, -1, -1, 0, 1};
    private static final int[] STEP_Y = {0, 1, 1, 1, 0, -1, -1, -1};

    private final int[] stand = new int[AXES];
    private final Line latestLine = new Line();
    private Arc latestArc = new Arc();
    // A new arc is tried here, so that a refused one leaves the latest as it was.
    private Arc triedArc = new Arc();
    // Null as long as nothing is walked.
    private Walk latest = null;

    public TickWalks() {
    }

    public boolean place(int x, int y, int z) {
        if (!isPlace(x, y, z)) {
            return false;
        }
        standAt(x, y, z);
        latest = null;
        return true;
    }

    public int line(int x, int y, int z) {
        if (!isPlace(x, y, z)) {
            return REFUSED;
        }
        latestLine.walk(stand, x, y, z);
        latest = latestLine;
        standAt(x, y, z);
        return latestLine.length();
    }

    public int arc(int x, int y, int cx, int cy, boolean left) {
        if (!isPlace(x, y, stand[Z]) || !isWithin(cx, FARTHEST_CENTRE) || !isWithin(cy, FARTHEST_CENTRE)) {
            return REFUSED;
        }
        triedArc.begin(stand, cx, cy, left);
        if (!triedArc.walk(x, y)) {
            return REFUSED;
        }
        Arc walked = triedArc;
        triedArc = latestArc;
        latestArc = walked;
        latest = walked;
        standAt(x, y, stand[Z]);
        return walked.length();
    }

    public int tick(int k, int axis) {
        if (latest == null || !isAxis(axis) || k < 0 || k > latest.length()) {
            return 0;
        }
        return latest.placeBehind(k, axis);
    }

    public int ticks() {
        return latest == null ? 0 : latest.length();
    }

    public int at(int axis) {
        return isAxis(axis) ? stand[axis] : 0;
    }

    public int off() {
        return latest == null ? 0 : latest.greatestOff();
    }

    public int strays() {
        return latest == null ? 0 : latest.strayTicks();
    }

    private void standAt(int x, int y, int z) {
        stand[X] = x;
        stand[Y] = y;
        stand[Z] = z;
    }

    private static boolean isAxis(int axis) {
        return axis >= 0 && axis < AXES;
    }

    private static boolean isPlace(int x, int y, int z) {
        return isWithin(x, FARTHEST_PLACE) && isWithin(y, FARTHEST_PLACE) && isWithin(z, FARTHEST_PLACE);
    }

    private static boolean isWithin(int number, int farthest) {
        return number >= -farthest && number <= farthest;
    }

    private static int greatestAmount(int dx, int dy, int dz) {
        return Math.max(Math.abs(dx), Math.max(Math.abs(dy), Math.abs(dz)));
    }

    private static boolean isStray(int dx, int dy, int dz) {
        return greatestAmount(dx, dy, dz) != 1;
    }

    /** A line or an arc that was not refused; k is from 0 to its length, and the axis is one of the three. */
    private abstract static class Walk {
        abstract int length();

        abstract int placeBehind(int k, int axis);

        abstract int greatestOff();

        abstract int strayTicks();
    }

    private static final class Line extends Walk {
        private static final int NOT_COUNTED = -1;

        private final int[] from = new int[AXES];
        private final int[] by = new int[AXES];
        private int length = 0;
        private int strays = NOT_COUNTED;

        void walk(int[] start, int x, int y, int z) {
            for (int axis = 0; axis < AXES; axis++) {
                from[axis] = start[axis];
            }
            by[X] = x - from[X];
            by[Y] = y - from[Y];
            by[Z] = z - from[Z];
            length = greatestAmount(by[X], by[Y], by[Z]);
            strays = NOT_COUNTED;
        }

        int length() {
            return length;
        }

        int placeBehind(int k, int axis) {
            if (length == 0) {
                return from[axis];
            }
            // 2 d k can be 7200000000, which is beyond an int.
            long n = length;
            return from[axis] + (int) Math.floorDiv(2L * by[axis] * k + n, 2L * n);
        }

        int greatestOff() {
            return 0;
        }

        // Counted when first asked for, as most lines are never asked.
        int strayTicks() {
            if (strays == NOT_COUNTED) {
                strays = countStrays();
            }
            return strays;
        }

        private int countStrays() {
            int count = 0;
            int x = from[X];
            int y = from[Y];
            int z = from[Z];
            for (int k = 1; k <= length; k++) {
                int nextX = placeBehind(k, X);
                int nextY = placeBehind(k, Y);
                int nextZ = placeBehind(k, Z);
                if (isStray(nextX - x, nextY - y, nextZ - z)) {
                    count++;
                }
                x = nextX;
                y = nextY;
                z = nextZ;
            }
            return count;
        }
    }

    private static final class Arc extends Walk {
        private final int[] markX = new int[MARKS];
        private final int[] markY = new int[MARKS];
        private int height = 0;
        private int centreX = 0;
        private int centreY = 0;
        private boolean left = false;
        private long square = 0;
        private int length = 0;
        private int off = 0;
        private int strays = 0;
        // The present place, of the walk itself and later of a look for one of its places.
        private int footX = 0;
        private int footY = 0;

        void begin(int[] start, int cx, int cy, boolean toTheLeft) {
            footX = start[X];
            footY = start[Y];
            height = start[Z];
            centreX = cx;
            centreY = cy;
            left = toTheLeft;
            square = squareFromCentre();
            length = 0;
            off = 0;
            strays = 0;
            mark(0);
        }

        /** Walks from the beginning to the end; false if the arc is none or is refused. */
        boolean walk(int endX, int endY) {
            if (square < LEAST_SQUARE || square > GREATEST_SQUARE) {
                return false;
            }
            for (int k = 1; k <= MOST_ARC_TICKS; k++) {
                int oldX = footX;
                int oldY = footY;
                if (!step()) {
                    return false;
                }
                mark(k);
                measure(footX - oldX, footY - oldY);
                if (footX == endX && footY == endY) {
                    length = k;
                    return true;
                }
                // A tick depends on the present place alone: from the beginning the same ticks
                // would come again and again, and the end was not among them.
                if (footX == markX[0] && footY == markY[0]) {
                    return false;
                }
            }
            return false;
        }

        int length() {
            return length;
        }

        int placeBehind(int k, int axis) {
            if (axis == Z) {
                return height;
            }
            seek(k);
            return axis == X ? footX : footY;
        }

        int greatestOff() {
            return off;
        }

        int strayTicks() {
            return strays;
        }

        private void mark(int k) {
            int row = k / MARK_SPACING;
            if (k % MARK_SPACING == 0 && row >= 0 && row < MARKS) {
                markX[row] = footX;
                markY[row] = footY;
            }
        }

        private void seek(int k) {
            int row = k / MARK_SPACING;
            if (row < 0 || row >= MARKS) {
                return;
            }
            footX = markX[row];
            footY = markY[row];
            for (int walked = row * MARK_SPACING; walked < k; walked++) {
                step();
            }
        }

        private void measure(int stepX, int stepY) {
            off = Math.max(off, (int) Math.abs(squareFromCentre() - square));
            if (isStray(stepX, stepY, 0)) {
                strays++;
            }
        }

        private long squareFromCentre() {
            long dx = footX - centreX;
            long dy = footY - centreY;
            return dx * dx + dy * dy;
        }

        /** Goes to the neighbour that is due; false (and stays) if there is none. */
        private boolean step() {
            long dx = footX - centreX;
            long dy = footY - centreY;
            int nearest = -1;
            long leastBeside = 0;
            for (int i = 0; i < NEIGHBOURS; i++) {
                long nextX = dx + STEP_X[i];
                long nextY = dy + STEP_Y[i];
                long turn = dx * nextY - dy * nextX;
                if (left ? turn > 0 : turn < 0) {
                    long beside = Math.abs(nextX * nextX + nextY * nextY - square);
                    if (nearest < 0 || beside < leastBeside) {
                        nearest = i;
                        leastBeside = beside;
                    }
                }
            }
            if (nearest < 0) {
                return false;
            }
            footX += STEP_X[nearest];
            footY += STEP_Y[nearest];
            return true;
        }
    }
}

public final class Promise7AtTest {
    public static void main(String[] args) {
        Checks checks = new Checks();
        TickWalks walks = new TickWalks();
        checks.stands("new", walks, 0, 0, 0);
        walks.place(-1, 2, -3);
        checks.stands("place", walks, -1, 2, -3);
        walks.line(7, 8, 9);
        checks.stands("line", walks, 7, 8, 9);
        walks.line(7, 8, -30001);
        checks.stands("refused line", walks, 7, 8, 9);
        walks.arc(-7, -8, 0, 0, true);
        checks.stands("arc", walks, -7, -8, 9);
        walks.arc(0, 0, 0, 0, true);
        checks.stands("refused arc", walks, -7, -8, 9);
        walks.place(30001, 0, 0);
        checks.stands("place that is none", walks, -7, -8, 9);
        walks.tick(1, 0);
        walks.strays();
        checks.stands("asked", walks, -7, -8, 9);
        // The document is silent on at() of another axis; 0 is what it asks of tick().
        for (int axis : new int[] {-1, 3, Integer.MAX_VALUE, Integer.MIN_VALUE}) {
            checks.due("at(" + axis + ")", walks.at(axis), 0);
        }
        walks.place(30000, -30000, 30000);
        checks.stands("edges", walks, 30000, -30000, 30000);
        checks.end();
    }
}

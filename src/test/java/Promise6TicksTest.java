public final class Promise6TicksTest {
    public static void main(String[] args) {
        Checks checks = new Checks();
        TickWalks walks = new TickWalks();
        checks.due("new: ticks()", walks.ticks(), 0);
        walks.line(-12, 5, 0);
        checks.due("line: ticks()", walks.ticks(), 12);
        walks.line(-12, 5, 0);
        checks.due("line to where it stands: ticks()", walks.ticks(), 0);
        walks.line(-12, 0, 0);
        checks.due("line: ticks()", walks.ticks(), 5);
        checks.due("refused line", walks.line(-12, 0, 30001), -1);
        checks.due("refused line: ticks()", walks.ticks(), 5);
        walks.arc(-8, 0, -10, 0, true);
        checks.due("arc: ticks()", walks.ticks(), 6);
        checks.due("refused arc", walks.arc(-10, 0, -10, 0, true), -1);
        checks.due("refused arc: ticks()", walks.ticks(), 6);
        checks.due("R2 none", walks.arc(-8, 0, -8, 0, true), -1);
        checks.due("R2 none: ticks()", walks.ticks(), 6);
        walks.arc(-8, 0, -10, 0, true);
        checks.due("whole circle: ticks()", walks.ticks(), 12);
        checks.due("place that is none", walks.place(0, 30001, 0), false);
        checks.due("place that is none: ticks()", walks.ticks(), 12);
        walks.place(-8, 0, 0);
        checks.due("place: ticks()", walks.ticks(), 0);
        walks.place(30000, 30000, 30000);
        walks.line(-30000, 30000, 30000);
        checks.due("edge to edge: ticks()", walks.ticks(), 60000);
        checks.end();
    }
}

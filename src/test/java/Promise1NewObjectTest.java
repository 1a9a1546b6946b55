public final class Promise1NewObjectTest {
    public static void main(String[] args) {
        Checks checks = new Checks();

        TickWalks fresh = new TickWalks();
        checks.stands("new", fresh, 0, 0, 0);
        checks.nothingWalked("new", fresh);

        TickWalks refused = new TickWalks();
        checks.due("new: line(0, 0, 30001)", refused.line(0, 0, 30001), -1);
        checks.due("new: arc(1, 1, 0, 0, true), R2 0", refused.arc(1, 1, 0, 0, true), -1);
        checks.stands("new, then refused", refused, 0, 0, 0);
        checks.nothingWalked("new, then refused", refused);

        TickWalks liner = new TickWalks();
        checks.due("new: line(3, -2, 1)", liner.line(3, -2, 1), 3);
        checks.tickIs("line of a new object", liner, 0, 0, 0, 0);

        TickWalks arcer = new TickWalks();
        checks.due("new: arc(2, 0, 1, 0, true)", arcer.arc(2, 0, 1, 0, true), 2);
        checks.tickIs("arc of a new object", arcer, 0, 0, 0, 0);

        checks.stands("an object beside others that walked", fresh, 0, 0, 0);
        checks.nothingWalked("an object beside others that walked", fresh);
        checks.stands("an object made after others walked", new TickWalks(), 0, 0, 0);
        checks.end();
    }
}

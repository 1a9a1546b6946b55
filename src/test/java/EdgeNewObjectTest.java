import java.util.function.ToIntFunction;

/** Promise 1: a new object's answers to every read, before any other call. */
public final class EdgeNewObjectTest {
    private static final int[] NUMBERS = {Integer.MIN_VALUE, -1, 0, 1, 2, 3, 100, 40000, 60000, Integer.MAX_VALUE};
    private static final Checks CHECKS = new Checks();

    public static void main(String[] args) {
        for (int axis : NUMBERS) {
            firstCall("at(" + axis + ")", walks -> walks.at(axis));
            for (int k : NUMBERS) {
                firstCall("tick(" + k + ", " + axis + ")", walks -> walks.tick(k, axis));
            }
        }
        firstCall("ticks()", TickWalks::ticks);
        firstCall("off()", TickWalks::off);
        firstCall("strays()", TickWalks::strays);
        firstWalks();
        CHECKS.end();
    }

    // Another object that has walked stands beside it: nothing of it may be seen in the new one.
    private static void firstCall(String call, ToIntFunction<TickWalks> asked) {
        TickWalks other = Checks.at(20, 0, 7);
        other.arc(0, 20, 0, 0, true);
        CHECKS.due("new: " + call, asked.applyAsInt(new TickWalks()), 0);
    }

    private static void firstWalks() {
        CHECKS.due("new: line(0, 0, 0)", new TickWalks().line(0, 0, 0), 0);
        CHECKS.due("new: line(-4, 2, 9)", new TickWalks().line(-4, 2, 9), 9);
        CHECKS.due("new: arc about 0 0", new TickWalks().arc(1, 0, 0, 0, true), -1);
        CHECKS.due("new: arc about 20 0", new TickWalks().arc(0, 0, 20, 0, true), 112);
        CHECKS.due("new: place(0, 0, 0)", new TickWalks().place(0, 0, 0), true);
        CHECKS.due("new: place(0, 0, 30001)", new TickWalks().place(0, 0, 30001), false);
    }
}

/** 'An object is used for at most 512 calls': runs of 512 calls on one object. */
public final class EdgeCallsTest {
    private static final int CALLS = 512;

    private final Checks checks = new Checks();
    private final TickWalks walks = new TickWalks();
    private final PlainModel model = new PlainModel();
    private int calls = 0;

    public static void main(String[] args) {
        EdgeCallsTest longest = new EdgeCallsTest();
        while (longest.calls < CALLS) {
            longest.longestWalk(longest.calls);
        }
        longest.checks.end();
        sameWalkOverAndOver();
        onlyRefusals();
    }

    // Eight kinds of call by turns, the longest walks of each among them; the 512th is answered as the first is.
    private void longestWalk(int call) {
        int side = call / 8 % 2 == 0 ? 1 : -1;
        String name = "call " + (call + 1) + ": ";
        switch (call % 8) {
            case 0 -> due(name + "place", walks.place(side * 30000, 5000, side) ? 1 : 0,
                model.place(side * 30000, 5000, side) ? 1 : 0);
            case 1 -> due(name + "line", walks.line(side * -30000, 5000, 9), model.line(side * -30000, 5000, 9));
            case 2 -> due(name + "tick", walks.tick(59000 + call, 0), model.tick(59000 + call, 0));
            case 3 -> due(name + "strays", walks.strays(), model.strays());
            case 4 -> due(name + "arc", walks.arc(side * -30000, 5000, side * -30000, 0, side > 0),
                model.arc(side * -30000, 5000, side * -30000, 0, side > 0));
            case 5 -> due(name + "refused arc", walks.arc(0, 0, side * -30000, 0, side > 0), -1);
            case 6 -> due(name + "off", walks.off(), model.off());
            default -> due(name + "tick", walks.tick(50 * call, 1), model.tick(50 * call, 1));
        }
    }

    private void due(String call, int got, int want) {
        checks.due(call, got, want);
        calls++;
    }

    private static void sameWalkOverAndOver() {
        Checks checks = new Checks();
        TickWalks walks = Checks.at(20, 0, 7);
        for (int call = 2; call < CALLS; call += 2) {
            checks.due("call " + call + ": arc", walks.arc(20, 0, 0, 0, call % 4 == 0), 112);
            checks.due("call " + (call + 1) + ": tick", walks.tick(110, 1), call % 4 == 0 ? -2 : 2);
        }
        checks.due("call 512: ticks", walks.ticks(), 112);
        checks.end();
    }

    private static void onlyRefusals() {
        Checks checks = new Checks();
        TickWalks walks = new TickWalks();
        for (int call = 1; call < CALLS; call++) {
            checks.due("call " + call + ": refused arc", walks.arc(1, 0, 5000, 0, call % 2 == 0), -1);
        }
        checks.due("call 512: at", walks.at(0), 0);
        checks.end();
    }
}

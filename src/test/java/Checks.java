/** Gathers the answers that are not the due ones, prints them, and ends a test with exit code 1 if there was one. */
final class Checks {
    private int wrong = 0;

    void due(String call, long got, long want) {
        if (got != want) {
            wrong++;
            System.out.println(call + " answered " + got + ", due is " + want);
        }
    }

    void due(String call, boolean got, boolean want) {
        due(call, got ? 1 : 0, want ? 1 : 0);
    }

    void due(String call, String got, String want) {
        if (!got.equals(want)) {
            wrong++;
            System.out.println(call + " answered " + got + ", due is " + want);
        }
    }

    void stands(String when, TickWalks walks, int x, int y, int z) {
        due(when + ": at(0)", walks.at(0), x);
        due(when + ": at(1)", walks.at(1), y);
        due(when + ": at(2)", walks.at(2), z);
    }

    void tickIs(String when, TickWalks walks, int k, int x, int y, int z) {
        due(when + ": tick(" + k + ", 0)", walks.tick(k, 0), x);
        due(when + ": tick(" + k + ", 1)", walks.tick(k, 1), y);
        due(when + ": tick(" + k + ", 2)", walks.tick(k, 2), z);
    }

    void nothingWalked(String when, TickWalks walks) {
        due(when + ": ticks()", walks.ticks(), 0);
        due(when + ": off()", walks.off(), 0);
        due(when + ": strays()", walks.strays(), 0);
        tickIs(when, walks, 0, 0, 0, 0);
        tickIs(when, walks, 1, 0, 0, 0);
    }

    static TickWalks at(int x, int y, int z) {
        TickWalks walks = new TickWalks();
        walks.place(x, y, z);
        return walks;
    }

    void end() {
        if (wrong != 0) {
            System.out.println(wrong + " answers are not as due");
            System.exit(1);
        }
    }
}

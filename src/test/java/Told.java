import java.util.ArrayList;
import java.util.List;
import java.util.function.Supplier;

/** What the reads tell of an object, gathered. */
final class Told {
    // An object is used for at most 512 calls: a long walk is read from several objects that walked it.
    private static final int PLACES_OF_ONE_OBJECT = 150;

    private Told() {
    }

    /** Every read at once: where it stands, and of what was walked the numbers and some places. */
    static String all(TickWalks walks) {
        int last = walks.ticks();
        return "at " + walks.at(0) + " " + walks.at(1) + " " + walks.at(2)
            + ", ticks " + last + ", off " + walks.off() + ", strays " + walks.strays()
            + ", from " + place(walks, 0) + " by " + place(walks, 1) + " to " + place(walks, last)
            + ", beside " + place(walks, -1) + " and " + place(walks, last + 1);
    }

    static String place(TickWalks walks, int k) {
        return walks.tick(k, 0) + " " + walks.tick(k, 1) + " " + walks.tick(k, 2);
    }

    /** Every place of the walk that each of the objects made has walked, its beginning first. */
    static List<int[]> places(Supplier<TickWalks> made) {
        TickWalks walks = made.get();
        int last = walks.ticks();
        List<int[]> places = new ArrayList<>();
        for (int k = 0; k <= last; k++) {
            if (k > 0 && k % PLACES_OF_ONE_OBJECT == 0) {
                walks = made.get();
            }
            places.add(new int[] {walks.tick(k, 0), walks.tick(k, 1), walks.tick(k, 2)});
        }
        return places;
    }
}

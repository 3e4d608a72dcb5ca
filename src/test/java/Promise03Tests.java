/**
 * Promise 3, place: "NONE when there are 5, x or y is not -1000 .. 1000, the cost not 0 .. 1000000, or the
 * room not 0 .. 1000."
 */
public final class Promise03Tests extends Trial {
    private static final long[][] WRONG = {
        {-1001, 0, 0, 0}, {1001, 0, 0, 0}, {Long.MIN_VALUE, 0, 0, 0}, {Long.MAX_VALUE, 0, 0, 0},
        {0, -1001, 0, 0}, {0, 1001, 0, 0}, {0, Long.MIN_VALUE, 0, 0}, {0, Long.MAX_VALUE, 0, 0},
        {0, 0, -1, 0}, {0, 0, 1000001, 0}, {0, 0, Long.MIN_VALUE, 0}, {0, 0, Long.MAX_VALUE, 0},
        {0, 0, 0, -1}, {0, 0, 0, 1001}, {0, 0, 0, Long.MIN_VALUE}, {0, 0, 0, Long.MAX_VALUE},
    };

    private static boolean isTaken(long x, long y, long cost, long room) {
        int number = new SiteChoice().place(x, y, cost, room);
        due("its number", number == 0 || number == NONE, true);
        return number == 0;
    }

    /** "x .. is not -1000 .. 1000" */
    static void promise03XIsMinus1000To1000() {
        takesJust("place by x", -1000, 1000, x -> isTaken(x, 0, 0, 0));
    }

    /** "or y is not -1000 .. 1000" */
    static void promise03YIsMinus1000To1000() {
        takesJust("place by y", -1000, 1000, y -> isTaken(0, y, 0, 0));
    }

    /** "the cost not 0 .. 1000000" */
    static void promise03CostIs0To1000000() {
        takesJust("place by cost", 0, 1000000, cost -> isTaken(0, 0, cost, 0));
    }

    /** "the room not 0 .. 1000" */
    static void promise03RoomIs0To1000() {
        takesJust("place by room", 0, 1000, room -> isTaken(0, 0, 0, room));
    }

    static void promise03AllAtAnEndIsTaken() {
        due("the least", isTaken(-1000, -1000, 0, 0), true);
        due("the greatest", isTaken(1000, 1000, 1000000, 1000), true);
        due("all wrong", isTaken(1001, -1001, -1, 1001), false);
    }

    /** "PLACES, numbered likewise, 5 at most" */
    static void promise03NumbersAre0To4() {
        SiteChoice x = new SiteChoice();
        for (int p = 0; p < 5; p++) {
            due("place(..)", x.place(0, 0, 0, 0), p);
        }
        due("sixth", x.place(0, 0, 0, 0), NONE);
        due("seventh", x.place(0, 0, 0, 0), NONE);
    }

    /** "NONE when there are 5" */
    static void promise03SixthIsRefused() {
        changesNothing("place(0, 0, 0, 0) when full", Towns::full, x -> x.place(0, 0, 0, 0) == NONE);
        changesNothing("place(1000, ..) when full", Towns::full, x -> x.place(1000, 1000, 1000000, 1000) == NONE);
    }

    /** A barred place is one of the 5. */
    static void promise03BarredOneIsCounted() {
        SiteChoice x = Towns.full();
        x.bar(4);
        due("place(0, 0, 0, 0)", x.place(0, 0, 0, 0), NONE);
    }

    /** "a number that is not such, is refused, and changes nothing" */
    static void promise03RefusedOneChangesNothing() {
        for (long[] w : WRONG) {
            String call = "place(" + w[0] + ", " + w[1] + ", " + w[2] + ", " + w[3] + ")";
            changesNothing(call, x -> x.place(w[0], w[1], w[2], w[3]) == NONE);
        }
    }

    static void promise03RefusedOneTakesNoNumber() {
        SiteChoice x = new SiteChoice();
        due("place(1001, ..)", x.place(1001, 0, 0, 0), NONE);
        due("bar(0)", x.bar(0), false);
        due("place(1000, ..)", x.place(1000, 0, 0, 0), 0);
        due("place(.., 1001)", x.place(0, 0, 0, 1001), NONE);
        due("place(.., 1000)", x.place(0, 0, 0, 1000), 1);
    }

    /** The square of the distance between far corners is 8000000, more than 2828 * 2828, less than 2829 * 2829. */
    static void promise03XAndYAtBothEndsAreWhereItIs() {
        due("corners, noise 2828", isServedFromCorners(-1000, -1000, 1000, 1000, 2828), true);
        due("corners, noise 2829", isServedFromCorners(-1000, -1000, 1000, 1000, 2829), false);
        due("other corners, noise 2828", isServedFromCorners(1000, -1000, -1000, 1000, 2828), true);
        due("other corners, noise 2829", isServedFromCorners(1000, -1000, -1000, 1000, 2829), false);
        due("along x, noise 2000", isServedFromCorners(-1000, 1000, 1000, 1000, 2000), true);
        due("along x, noise 2001", isServedFromCorners(-1000, 1000, 1000, 1000, 2001), false);
        due("along y, noise 2000", isServedFromCorners(-1000, -1000, -1000, 1000, 2000), true);
        due("along y, noise 2001", isServedFromCorners(-1000, -1000, -1000, 1000, 2001), false);
    }

    private static boolean isServedFromCorners(long x0, long y0, long x1, long y1, long metres) {
        SiteChoice x = Towns.needs(1, 1);
        x.place(x0, y0, 0, 1);
        x.place(x1, y1, 0, 1);
        x.walk(0, 0, 0);
        x.walk(1, 1, 0);
        x.noise(0, metres);
        return x.run(1) == 0;
    }

    static void promise03CostAtBothEndsIsTheCost() {
        SiteChoice x = Towns.single(1, 1000000, 1, 0);
        x.budget(1000000);
        due("run(1) with all its cost", x.run(1), 0);
        x.budget(999999);
        due("run(1) with a cent too few", x.run(1), 2);
        SiteChoice free = Towns.single(1, 0, 1, 0);
        free.budget(0);
        due("run(1) of a place for nothing", free.run(1), 0);
    }

    static void promise03RoomAtBothEndsIsTheRoom() {
        due("run(1) with room 0, need 1", Towns.single(1, 0, 0, 0).run(1), 2);
        due("run(1) with room 0, need 0", Towns.single(0, 0, 0, 0).run(1), 0);
        due("run(1) with room 1, need 1", Towns.single(1, 0, 1, 0).run(1), 0);
        due("run(1) with room 99, need 100", Towns.single(100, 0, 99, 0).run(1), 2);
        due("run(1) with room 100, need 100", Towns.single(100, 0, 100, 0).run(1), 0);
        due("run(1) with room 1000, need 100", Towns.single(100, 0, 1000, 0).run(1), 0);
    }

    /** "One more place": nobody can go there yet, and those there are as they were. */
    static void promise03OneMoreLeavesTheOthers() {
        SiteChoice x = Towns.pair();
        due("place(0, 0, 0, 1000)", x.place(0, 0, 0, 1000), 2);
        due("ways()", x.ways(), 4);
        due("run(4)", x.run(4), 0);
        due("plan", Towns.plan(x, 2), "1 0: 80");
        x.walk(1, 2, 0);
        due("ways()", x.ways(), 6);
    }

    public static void main(String[] args) {
        runAll(Promise03Tests.class);
    }
}

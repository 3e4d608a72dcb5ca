/**
 * Promise 4, walk: "A walk is told (0 .. 10000), in place of one there. Answers true (also if it was that; it
 * counts as told), or false."
 */
public final class Promise04Tests extends Trial {
    /** "A walk is told (0 .. 10000)" */
    static void promise04MetresAre0To10000() {
        takesJust("walk", 0, 10000, metres -> Towns.pair().walk(1, 1, metres));
    }

    /** "a call that names a district .. that there is not" */
    static void promise04DistrictMustBeThere() {
        takesJustInts("walk by district", 0, 1, d -> Towns.pair().walk((int) d, 0, 1));
        takesJustInts("walk by district when full", 0, 5, d -> Towns.full().walk((int) d, 0, 1));
        SiteChoice x = new SiteChoice();
        x.place(0, 0, 0, 0);
        due("walk(0, 0, 1) without districts", x.walk(0, 0, 1), false);
    }

    /** "or place that there is not" */
    static void promise04PlaceMustBeThere() {
        takesJustInts("walk by place", 0, 1, p -> Towns.pair().walk(0, (int) p, 1));
        takesJustInts("walk by place when full", 0, 4, p -> Towns.full().walk(0, (int) p, 1));
        due("walk(0, 0, 1) without places", Towns.needs(1).walk(0, 0, 1), false);
    }

    /** There are places 3 and 4 but no such districts, and districts 1 to 5 but one place. */
    static void promise04DistrictsAndPlacesAreCountedApart() {
        SiteChoice x = Towns.needs(1);
        for (int p = 0; p < 5; p++) {
            x.place(0, 0, 0, 0);
        }
        due("walk(4, 0, 1)", x.walk(4, 0, 1), false);
        due("walk(0, 4, 1)", x.walk(0, 4, 1), true);
        SiteChoice y = Towns.needs(1, 1, 1, 1, 1, 1);
        y.place(0, 0, 0, 0);
        due("walk(0, 4, 1)", y.walk(0, 4, 1), false);
        due("walk(4, 0, 1)", y.walk(4, 0, 1), true);
    }

    static void promise04RefusedOneChangesNothing() {
        for (int number : new int[] {-1, 6, Integer.MIN_VALUE, Integer.MAX_VALUE}) {
            changesNothing("walk(" + number + ", 0, 1)", x -> !x.walk(number, 0, 1));
            changesNothing("walk(0, " + number + ", 1)", x -> !x.walk(0, number, 1));
        }
        for (long metres : new long[] {-1, 10001, Long.MIN_VALUE, Long.MAX_VALUE}) {
            changesNothing("walk(0, 0, " + metres + ")", x -> !x.walk(0, 0, metres));
        }
    }

    /** What is not there yet has no walk when it comes. */
    static void promise04RefusedOneIsNotKeptForLater() {
        SiteChoice x = Towns.pair();
        due("walk(2, 0, 1)", x.walk(2, 0, 1), false);
        due("walk(0, 2, 1)", x.walk(0, 2, 1), false);
        x.district(1);
        due("ways()", x.ways(), 0);
        x.walk(2, 0, 1);
        x.place(0, 0, 0, 0);
        due("ways()", x.ways(), 4);
    }

    static void promise04WalkAtBothEndsIsTheWalk() {
        SiteChoice x = Towns.single(7, 0, 7, 10000);
        due("bound()", x.bound(), 70000);
        due("walk(0, 0, 0)", x.walk(0, 0, 0), true);
        due("bound()", x.bound(), 0);
        due("ways() with a walk of 0", x.ways(), 1);
        due("run(1)", x.run(1), 0);
        due("of(0)", x.of(0), 0);
    }

    /** "in place of one there" */
    static void promise04TakesThePlaceOfOneThere() {
        SiteChoice x = Towns.pair();
        due("walk(0, 0, 9)", x.walk(0, 0, 9), true);
        due("bound()", x.bound(), 10 * 4 + 20 * 2);
        due("walk(0, 0, 3)", x.walk(0, 0, 3), true);
        due("bound()", x.bound(), 10 * 3 + 20 * 2);
        due("ways()", x.ways(), 4);
    }

    /** A refused one leaves the one there. */
    static void promise04RefusedOneLeavesTheOneThere() {
        SiteChoice x = Towns.single(1, 0, 1, 5);
        due("walk(0, 0, 10001)", x.walk(0, 0, 10001), false);
        due("bound()", x.bound(), 5);
        due("walk(0, 0, -1)", x.walk(0, 0, -1), false);
        due("bound()", x.bound(), 5);
    }

    /** "true (also if it was that; it counts as told)" */
    static void promise04SameWalkCountsAsTold() {
        SiteChoice x = Towns.held();
        due("proved()", x.proved(), true);
        due("walk(0, 0, 1) as it was", x.walk(0, 0, 1), true);
        due("proved()", x.proved(), false);
        due("ways()", x.ways(), 9);
    }

    /** A walk above the most, to a barred place, or from where there is no need, is told as others are. */
    static void promise04WalkThatIsOfNoUseIsTold() {
        SiteChoice x = Towns.pair();
        x.fair(0, 0);
        due("walk above the most", x.walk(0, 0, 1), true);
        x.bar(1);
        due("walk to a barred place", x.walk(0, 1, 0), true);
        x.district(0);
        due("walk without a need", x.walk(2, 0, 0), true);
        due("ways()", x.ways(), 0);
    }

    public static void main(String[] args) {
        runAll(Promise04Tests.class);
    }
}

/** Promise 8, fair: "A district's most becomes another one (0 .. 10000). Answers true, or false." */
public final class Promise08Tests extends Trial {
    /** "(0 .. 10000)" */
    static void promise08MostIs0To10000() {
        takesJust("fair", 0, 10000, most -> Towns.pair().fair(1, most));
    }

    /** "a call that names a district .. that there is not" */
    static void promise08DistrictMustBeThere() {
        takesJustInts("fair", 0, 1, d -> Towns.pair().fair((int) d, 1));
        takesJustInts("fair when full", 0, 5, d -> Towns.full().fair((int) d, 1));
        due("fair(0, 0) without districts", new SiteChoice().fair(0, 0), false);
    }

    static void promise08RefusedOneChangesNothing() {
        for (int d : new int[] {-1, 6, Integer.MIN_VALUE, Integer.MAX_VALUE}) {
            changesNothing("fair(" + d + ", 0)", x -> !x.fair(d, 0));
        }
        for (long most : new long[] {-1, 10001, Long.MIN_VALUE, Long.MAX_VALUE}) {
            changesNothing("fair(0, " + most + ")", x -> !x.fair(0, most));
            changesNothing("fair(1, " + most + ")", x -> !x.fair(1, most));
        }
    }

    static void promise08RefusedOneIsNotKeptForLater() {
        SiteChoice x = Towns.pair();
        due("fair(2, 0)", x.fair(2, 0), false);
        x.district(1);
        x.walk(2, 0, 10000);
        due("ways()", x.ways(), 4);
    }

    /** "it is at most the district's most" */
    static void promise08WalkAtTheMost() {
        SiteChoice x = Towns.single(3, 0, 3, 50);
        x.fair(0, 50);
        due("ways() at the most", x.ways(), 1);
        due("run(1) at the most", x.run(1), 0);
        due("bound() at the most", x.bound(), 150);
        x.fair(0, 49);
        due("ways() above the most", x.ways(), 0);
        due("run(1) above the most", x.run(1), 2);
        due("bound() above the most", x.bound(), NONE);
        due("years(1) above the most", x.years(1), NONE);
    }

    /** The least most lets a walk of 0, the greatest every walk. */
    static void promise08MostAtBothEnds() {
        SiteChoice x = Towns.single(3, 0, 3, 0);
        due("fair(0, 0)", x.fair(0, 0), true);
        due("run(1) with a walk of 0", x.run(1), 0);
        x.walk(0, 0, 1);
        due("run(1) with a walk of 1", x.run(1), 2);
        due("fair(0, 10000)", x.fair(0, 10000), true);
        x.walk(0, 0, 10000);
        due("run(1) with a walk of 10000", x.run(1), 0);
        x.fair(0, 9999);
        due("run(1) with the most one less", x.run(1), 2);
    }

    /** A walk that was not told is none, whatever the most. */
    static void promise08NoWalkTold() {
        SiteChoice x = Towns.needs(1);
        x.place(0, 0, 0, 1);
        x.fair(0, 10000);
        due("ways()", x.ways(), 0);
        x.fair(0, 0);
        due("ways()", x.ways(), 0);
    }

    /** It is that district's alone, and a walk above it is there again when it is raised. */
    static void promise08IsOfOneDistrict() {
        SiteChoice x = Towns.pair();
        x.fair(1, 2);
        due("ways()", x.ways(), 2);
        x.fair(1, 10000);
        due("ways()", x.ways(), 4);
        x.fair(0, 0);
        due("ways()", x.ways(), 0);
    }

    /** The most there is already is told as others are: only bar() names that case. */
    static void promise08SameMostIsTold() {
        SiteChoice x = Towns.held();
        due("fair(1, 8) as it was", x.fair(1, 8), true);
        due("proved()", x.proved(), false);
    }

    public static void main(String[] args) {
        runAll(Promise08Tests.class);
    }
}

/**
 * Promise 14, bound: "for all districts with a need above 0 that times the least walk to a place, not barred,
 * to which it can go; NONE when one of them can go to none."
 */
public final class Promise14Tests extends Trial {
    /** "that times the least walk" */
    static void promise14LeastWalks() {
        due("bound()", Towns.pair().bound(), 10 * 1 + 20 * 2);
    }

    /** "for all districts with a need above 0": none of them is a bound of 0. */
    static void promise14WithoutNeeds() {
        due("bound() of a new object", new SiteChoice().bound(), 0);
        due("bound() with needs of 0", Towns.needs(0, 0).bound(), 0);
        due("bound() with a need of 0 and a walk", Towns.single(0, 0, 0, 9).bound(), 0);
        SiteChoice x = Towns.pair();
        x.district(0);
        due("bound() with a need of 0 that can go nowhere", x.bound(), 50);
    }

    /** "NONE when one of them can go to none", whichever it is, and why ever. */
    static void promise14OneCanGoToNone() {
        due("bound() without places", Towns.needs(1).bound(), NONE);
        for (int lost = 0; lost < 2; lost++) {
            SiteChoice x = Towns.pair();
            x.fair(lost, 0);
            due("bound() with most 0 of " + lost, x.bound(), NONE);
        }
        SiteChoice barred = Towns.single(1, 0, 1, 0);
        barred.bar(0);
        due("bound() with all barred", barred.bound(), NONE);
        SiteChoice untold = Towns.pair();
        untold.district(1);
        due("bound() with no walk told", untold.bound(), NONE);
    }

    /** A bound of 0 is not NONE. */
    static void promise14BoundOf0() {
        due("bound() with a walk of 0", Towns.single(100, 0, 0, 0).bound(), 0);
    }

    /** "a place, not barred" */
    static void promise14BarredAside() {
        SiteChoice x = Towns.pair();
        x.bar(0);
        due("bound()", x.bound(), 10 * 4 + 20 * 6);
    }

    /** "to which it can go": at its most, not above. */
    static void promise14WalkAtTheMost() {
        SiteChoice x = Towns.pair();
        x.fair(1, 2);
        due("bound() at the most", x.bound(), 50);
        x.fair(1, 1);
        due("bound() above the most", x.bound(), NONE);
    }

    /** "The least that any plan's sum could be": budget, rooms and noises aside. */
    static void promise14BudgetRoomsAndNoisesAside() {
        SiteChoice x = Towns.needs(100, 100);
        x.place(0, 0, 1000000, 0);
        x.place(0, 0, 1000000, 0);
        x.noise(0, 3000);
        x.budget(0);
        Towns.walks(x, 0, 3, 4);
        Towns.walks(x, 1, 6, 5);
        due("bound()", x.bound(), 800);
    }

    /** "as things are": not as they were at a run(). */
    static void promise14AsThingsAre() {
        SiteChoice x = Towns.held();
        x.walk(0, 2, 0);
        due("bound()", x.bound(), 40);
        due("sum()", x.sum(), 80);
    }

    static void promise14AskingChangesNothing() {
        changesNothing("bound()", x -> x.bound() >= NONE);
    }

    public static void main(String[] args) {
        runAll(Promise14Tests.class);
    }
}

/** Promise 13, sum: "The sum of the plan held, when it was found or improved last; NONE when none is held." */
public final class Promise13Tests extends Trial {
    /** "when it was found": walks told since do not count. */
    static void promise13WhenItWasFound() {
        SiteChoice x = Towns.held();
        due("sum()", x.sum(), 80);
        x.walk(0, 1, 10000);
        x.walk(1, 0, 0);
        due("sum() with other walks", x.sum(), 80);
    }

    /** "or improved last" */
    static void promise13WhenItWasImproved() {
        SiteChoice x = Towns.held();
        x.walk(1, 0, 3);
        due("improve(0)", x.improve(0), 0);
        due("sum()", x.sum(), 100);
        x.walk(1, 0, 4);
        due("sum() until the next", x.sum(), 100);
        due("improve(-1)", x.improve(-1), NONE);
        due("sum() after a refused one", x.sum(), 100);
        due("run(9)", x.run(9), 0);
        due("sum() when it was found anew", x.sum(), 120);
    }

    /** "NONE when none is held": before a run(), after one that found too many ways, after one without a plan. */
    static void promise13NoneIsHeld() {
        due("sum() before a run", Towns.pair().sum(), NONE);
        due("sum() of a new object", new SiteChoice().sum(), NONE);
        SiteChoice x = Towns.held();
        x.run(0);
        due("sum() after too many ways", x.sum(), NONE);
        due("sum() without a plan", Towns.stuck().sum(), NONE);
    }

    /** A plan's sum may be 0, with needs and without, and is not NONE then. */
    static void promise13SumOf0() {
        SiteChoice idle = new SiteChoice();
        idle.run(1);
        due("sum() without needs", idle.sum(), 0);
        SiteChoice near = Towns.single(100, 0, 100, 0);
        near.run(1);
        due("sum() with a walk of 0", near.sum(), 0);
    }

    /** The greatest: six needs of 100, 10000 metres each. */
    static void promise13GreatestSum() {
        SiteChoice x = Towns.needs(100, 100, 100, 100, 100, 100);
        x.place(0, 0, 0, 1000);
        for (int d = 0; d < 6; d++) {
            x.walk(d, 0, 10000);
        }
        x.run(1);
        due("sum()", x.sum(), 6000000);
        due("bound()", x.bound(), 6000000);
    }

    static void promise13AskingChangesNothing() {
        changesNothing("sum()", x -> x.sum() >= NONE);
    }

    public static void main(String[] args) {
        runAll(Promise13Tests.class);
    }
}

/** Promise 7, budget: "The budget becomes another one (0 .. 10000000). Answers true, or false." */
public final class Promise07Tests extends Trial {
    /** "(0 .. 10000000)" */
    static void promise07CentsAre0To10000000() {
        takesJust("budget", 0, 10000000, cents -> Towns.pair().budget(cents));
        takesJust("budget of a new object", 0, 10000000, cents -> new SiteChoice().budget(cents));
    }

    static void promise07RefusedOneChangesNothing() {
        for (long cents : new long[] {-1, 10000001, Long.MIN_VALUE, Long.MAX_VALUE}) {
            changesNothing("budget(" + cents + ")", x -> !x.budget(cents));
        }
    }

    /** A refused one leaves the one there, at an end too. */
    static void promise07RefusedOneLeavesTheOneThere() {
        SiteChoice x = Towns.pair();
        x.budget(0);
        due("budget(10000001)", x.budget(10000001), false);
        due("run(4)", x.run(4), 2);
        x.budget(10000000);
        due("budget(-1)", x.budget(-1), false);
        due("run(4)", x.run(4), 0);
    }

    /** "their costs together are at most the budget" */
    static void promise07CostsAtTheBudget() {
        SiteChoice x = Towns.pair();
        x.budget(12);
        due("run(4) with 12", x.run(4), 0);
        x.budget(11);
        due("run(4) with 11", x.run(4), 2);
        x.budget(13);
        due("run(4) with 13", x.run(4), 0);
    }

    /** The least budget opens what costs nothing, and no place at all where there are no needs. */
    static void promise07BudgetOf0() {
        SiteChoice free = Towns.single(1, 0, 1, 0);
        due("budget(0)", free.budget(0), true);
        due("run(1) of a place for nothing", free.run(1), 0);
        SiteChoice dear = Towns.single(1, 1, 1, 0);
        dear.budget(0);
        due("run(1) of a place for a cent", dear.run(1), 2);
        SiteChoice idle = Towns.single(0, 1000000, 1, 0);
        idle.budget(0);
        due("run(1) without needs", idle.run(1), 0);
        due("years(6) without needs", idle.years(6), 0);
    }

    /** All five at the greatest cost take half of the greatest budget. */
    static void promise07GreatestCostsTogether() {
        SiteChoice x = Towns.needs(1, 1, 1, 1, 1);
        for (int p = 0; p < 5; p++) {
            x.place(0, 0, 1000000, 1);
            x.walk(p, p, 0);
        }
        x.budget(5000000);
        due("run(1)", x.run(1), 0);
        x.budget(4999999);
        due("run(1) with a cent too few", x.run(1), 2);
        x.budget(10000000);
        due("run(1) with the greatest", x.run(1), 0);
    }

    /** The costs of places that are not given do not count. */
    static void promise07CostOfOneNotGiven() {
        SiteChoice x = Towns.pair();
        x.place(0, 0, 1000000, 1000);
        x.budget(12);
        due("run(4)", x.run(4), 0);
        due("chosen(2)", x.chosen(2), false);
    }

    /** A place that serves two is paid once. */
    static void promise07CostIsPaidOnce() {
        SiteChoice x = Towns.needs(1, 1);
        x.place(0, 0, 10, 2);
        x.walk(0, 0, 0);
        x.walk(1, 0, 0);
        x.budget(10);
        due("run(1)", x.run(1), 0);
    }

    /** The budget there is already is told as others are: only bar() names that case. */
    static void promise07SameBudgetIsTold() {
        SiteChoice x = Towns.held();
        due("budget(12) as it was", x.budget(12), true);
        due("proved()", x.proved(), false);
    }

    public static void main(String[] args) {
        runAll(Promise07Tests.class);
    }
}

/**
 * Promise 19, years: "Looks over n years, 1 .. 6, by things as they are .. Answers the least cost of all years
 * together; NONE when n is not such or there is no way. Of all ways with the least the first is held: that with
 * the lesser set (told as the sum of 2^p) in the first year in which they differ."
 */
public final class Promise19Tests extends Trial {
    /** "n years, 1 .. 6" */
    static void promise19YearsAre1To6() {
        takesJustInts("years", 1, 6, n -> Towns.single(1, 0, 1, 1).years((int) n) == n);
        takesJustInts("years of a new object", 1, 6, n -> new SiteChoice().years((int) n) == 0);
        due("years(-6)", Towns.pair().years(-6), NONE);
    }

    /** "NONE when n is not such" */
    static void promise19RefusedOneChangesNothing() {
        for (int n : new int[] {0, 7, -1, Integer.MIN_VALUE, Integer.MAX_VALUE}) {
            changesNothing("years(" + n + ")", x -> x.years(n) == NONE);
        }
    }

    /** "needs are n + t * (n over 10, down)": 9 does not grow, 10 and 19 by 1, 20 by 2, 100 by 10. */
    static void promise19NeedsGrow() {
        long[] needs = {1, 9, 10, 19, 20, 99, 100};
        long[] growth = {0, 0, 1, 1, 2, 9, 10};
        for (int i = 0; i < needs.length; i++) {
            SiteChoice x = Towns.single(needs[i], 0, 1000, 1);
            long all = 0;
            for (int n = 1; n <= 6; n++) {
                all += needs[i] + (n - 1) * growth[i];
                due("years(" + n + ") of need " + needs[i], x.years(n), all);
            }
        }
    }

    /** Each district's need grows by itself, not their sum. */
    static void promise19NeedsGrowEachByItself() {
        SiteChoice x = Towns.needs(9, 9, 15);
        x.place(0, 0, 0, 1000);
        for (int d = 0; d < 3; d++) {
            x.walk(d, 0, 1);
        }
        due("years(2)", x.years(2), 33 + 34);
    }

    /** The room is for the needs of the year: 150 in the last one of 100. */
    static void promise19RoomOfTheLastYear() {
        SiteChoice x = Towns.single(100, 0, 149, 1);
        due("years(5) with room 149", x.years(5), 100 + 110 + 120 + 130 + 140);
        due("years(6) with room 149", x.years(6), NONE);
        due("years(6) with room 150", Towns.single(100, 0, 150, 1).years(6), 750);
    }

    /** No way in the first year, and none in a later one alone. */
    static void promise19NoWay() {
        due("years(1) without places", Towns.needs(1).years(1), NONE);
        due("years(1) without room", Towns.single(10, 0, 9, 1).years(1), NONE);
        SiteChoice x = Towns.single(10, 0, 10, 1);
        due("years(1)", x.years(1), 10);
        due("years(2) without room in the second", x.years(2), NONE);
    }

    /** A need of 0 stays one, and without needs nothing is opened, though it were for nothing. */
    static void promise19WithoutNeeds() {
        SiteChoice x = Towns.single(0, 0, 0, 9);
        due("years(6)", x.years(6), 0);
        due("open", Towns.opened(x, 1, 6), "0 0 0 0 0 0");
    }

    /** "(all their costs within the budget ..)" */
    static void promise19CostsAtTheBudget() {
        SiteChoice x = Towns.single(1, 10, 1, 5);
        x.budget(10);
        due("years(1) at the budget", x.years(1), 15);
        x.budget(9);
        due("years(1) above the budget", x.years(1), NONE);
    }

    /** The budget is for those open in one year: not for all that are opened over the years. */
    static void promise19BudgetIsForEachYear() {
        SiteChoice x = Towns.needs(10);
        x.place(0, 0, 6, 10);
        x.place(0, 0, 6, 11);
        Towns.walks(x, 0, 0, 100);
        x.budget(6);
        due("years(2)", x.years(2), 6 + 6 + 1100);
        due("open", Towns.opened(x, 2, 2), "10 01");
    }

    /** "the costs of those places that are open in it and were not in the year before" */
    static void promise19CostIsPaidOnceWhileOpen() {
        due("years(6)", Towns.single(1, 1000, 1, 1).years(6), 1006);
    }

    /** Closed in a year between, it is paid again: the budget bars both from being open at once. */
    static void promise19CostIsPaidAgainWhenReopened() {
        SiteChoice x = Towns.needs(10, 20);
        x.place(0, 0, 10, 30);
        x.place(3, 4, 10, 33);
        x.place(900, 900, 0, 1000);
        Towns.walks(x, 0, 1, 2, 100);
        Towns.walks(x, 1, 1, 2, 100);
        x.budget(20);
        due("years(3) with both open", x.years(3), 20 + 30 + 44 + 48);
        x.budget(19);
        due("years(3) with one at a time", x.years(3), 30 + 30 + 66 + 1224);
        due("open", Towns.opened(x, 3, 3), "100 010 101");
    }

    /** "(.. some perhaps not given)": place 0 is kept open in the second year, in which it has no room for either. */
    static void promise19OpenButNotGiven() {
        SiteChoice x = Towns.needs(20, 16);
        x.place(0, 0, 2, 20);
        x.place(10, 0, 3, 39);
        Towns.walks(x, 0, 5, 10);
        Towns.walks(x, 1, 10, 1);
        due("years(3)", x.years(3), 5 + 116 + 237 + 420);
        due("open", Towns.opened(x, 2, 3), "11 11 11");
    }

    /** "a set of places is OPEN that may be open": noise at the distance, and above. */
    static void promise19Noise() {
        SiteChoice x = Towns.needs(1, 1);
        x.place(0, 0, 1, 9);
        x.place(3, 4, 1, 9);
        Towns.walks(x, 0, 0);
        Towns.walks(x, 1, 7, 0);
        x.noise(1, 5);
        due("years(3) at the distance", x.years(3), 2);
        due("open", Towns.opened(x, 2, 3), "11 11 11");
        x.noise(1, 6);
        due("years(3) too near", x.years(3), 1 + 21);
        due("open", Towns.opened(x, 2, 3), "10 10 10");
    }

    static void promise19Barred() {
        SiteChoice x = Towns.single(1, 0, 1, 5);
        x.place(0, 0, 0, 1);
        x.walk(0, 1, 6);
        x.bar(0);
        due("years(2)", x.years(2), 12);
        due("open", Towns.opened(x, 2, 2), "01 01");
        x.bar(1);
        due("years(1) with all barred", x.years(1), NONE);
    }

    /** "that with the lesser set (told as the sum of 2^p)": 1 before 2, 3 before 4. */
    static void promise19LesserSet() {
        SiteChoice one = Towns.needs(1);
        one.place(0, 0, 5, 1);
        one.place(0, 0, 5, 1);
        Towns.walks(one, 0, 1, 1);
        due("years(2)", one.years(2), 7);
        due("open of {0} before {1}", Towns.opened(one, 2, 2), "10 10");
        SiteChoice two = Towns.needs(1, 1);
        two.place(0, 0, 2, 1);
        two.place(0, 0, 3, 1);
        two.place(0, 0, 5, 2);
        Towns.walks(two, 0, 1, 1, 1);
        Towns.walks(two, 1, 1, 1, 1);
        due("years(1)", two.years(1), 7);
        due("open of {0, 1} before {2}", Towns.opened(two, 3, 1), "110");
    }

    /** "in the first year in which they differ": the lesser set at first, though a greater one follows. */
    static void promise19LesserSetInTheFirstYear() {
        SiteChoice x = Towns.needs(10);
        x.place(0, 0, 10, 10);
        x.place(9, 0, 11, 100);
        Towns.walks(x, 0, 0, 1);
        due("years(2), 10 + 11 + 11 or 11 + 10 + 11", x.years(2), 32);
        due("open", Towns.opened(x, 2, 2), "10 01");
    }

    /** A place for nothing that is of no use any more is closed, and one of no use yet is not opened. */
    static void promise19LesserSetLeavesOutWhatIsOfNoUse() {
        SiteChoice x = Towns.needs(10);
        x.place(0, 0, 0, 10);
        x.place(0, 0, 0, 1000);
        Towns.walks(x, 0, 1, 1);
        due("years(2)", x.years(2), 21);
        due("open", Towns.opened(x, 2, 2), "10 01");
    }

    /** The dearest there is: the greatest needs, walks and costs over six years. */
    static void promise19GreatestCost() {
        SiteChoice x = Towns.needs(100, 100, 100, 100, 100, 100);
        for (int p = 0; p < 5; p++) {
            x.place(0, 0, 1000000, p == 0 ? 300 : 150);
            x.walk(p, p, 10000);
        }
        x.walk(5, 0, 10000);
        due("years(6)", x.years(6), 5000000 + 6 * 7500000);
        due("open", Towns.opened(x, 5, 6), "11111 11111 11111 11111 11111 11111");
    }

    /** It is none of run()'s: what is held, its sum, and proved() are as they were. */
    static void promise19LeavesThePlanHeld() {
        SiteChoice x = Towns.held();
        due("years(1)", x.years(1), 12 + 80);
        due("years(6)", x.years(6), NONE);
        due("plan", Towns.plan(x, 3), "1 0 -1: 80");
        due("proved()", x.proved(), true);
        SiteChoice fresh = Towns.pair();
        fresh.years(1);
        due("sum()", fresh.sum(), NONE);
        due("of(0)", fresh.of(0), NONE);
        due("proved()", fresh.proved(), false);
    }

    /** "by things as they are" */
    static void promise19AsThingsAre() {
        SiteChoice x = Towns.single(1, 5, 1, 5);
        due("years(1)", x.years(1), 10);
        x.walk(0, 0, 10000);
        due("years(1)", x.years(1), 10005);
        x.fair(0, 9999);
        due("years(1)", x.years(1), NONE);
    }

    /** "and were not in the year before": before the first year none were open. */
    static void promise19CostOfTheFirstYear() {
        SiteChoice x = Towns.needs(1);
        x.place(0, 0, 10, 1);
        x.place(0, 0, 5, 1);
        Towns.walks(x, 0, 0, 1);
        due("years(1)", x.years(1), 6);
        due("open", Towns.opened(x, 2, 1), "01");
        due("years(6)", x.years(6), 10);
        due("open", Towns.opened(x, 2, 6), "10 10 10 10 10 10");
    }

    /** A run() that found no plan leaves nothing behind: the sums are those of best plans. */
    static void promise19AfterNoPlan() {
        SiteChoice x = Towns.stuck();
        x.budget(12);
        due("years(1)", x.years(1), 12 + 80);
    }

    public static void main(String[] args) {
        runAll(Promise19Tests.class);
    }
}

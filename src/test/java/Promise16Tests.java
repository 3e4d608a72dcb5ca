/**
 * Promise 16, clash: "When the latest run() answered 2: the k-th (from 0 on) district of the least set of
 * districts that can't be served, as things were at that run() .. The least set has the fewest districts, of
 * those it is the first by its numbers, rising. NONE when there is none such, or run() answered otherwise."
 */
public final class Promise16Tests extends Trial {
    /** One place with some room, to which all districts can go. */
    private static SiteChoice crowded(long room, long... needs) {
        SiteChoice x = Towns.needs(needs);
        x.place(0, 0, 0, room);
        for (int d = 0; d < needs.length; d++) {
            x.walk(d, 0, 1);
        }
        return x;
    }

    /** "the k-th (from 0 on)", rising; "NONE when there is none such" */
    static void promise16KFrom0On() {
        SiteChoice x = Towns.stuck();
        due("clash(0)", x.clash(0), 0);
        due("clash(1)", x.clash(1), 1);
        for (int k : new int[] {2, 3, 5, 6, 7, -1, -2, Integer.MIN_VALUE, Integer.MAX_VALUE}) {
            due("clash(" + k + ")", x.clash(k), NONE);
        }
    }

    static void promise16WrongKChangesNothing() {
        for (int k : new int[] {-1, 6, Integer.MIN_VALUE, Integer.MAX_VALUE}) {
            changesNothing("clash(" + k + ")", x -> x.clash(k) == NONE);
        }
    }

    /** All six of them, when any five can be served. */
    static void promise16SetOfAllSix() {
        SiteChoice x = crowded(599, 100, 100, 100, 100, 100, 100);
        due("run(1)", x.run(1), 2);
        due("clash", Towns.clash(x), "0 1 2 3 4 5");
        due("clash(5)", x.clash(5), 5);
        due("clash(6)", x.clash(6), NONE);
    }

    /** One alone: the first of those that can go nowhere. */
    static void promise16SetOfOne() {
        SiteChoice x = Towns.needs(0, 5, 5, 5);
        x.place(0, 0, 0, 100);
        x.walk(2, 0, 1);
        due("run(0)", x.run(0), 2);
        due("clash", Towns.clash(x), "1");
        x.walk(1, 0, 1);
        due("run(0)", x.run(0), 2);
        due("clash", Towns.clash(x), "3");
    }

    /** The last of six. */
    static void promise16LastDistrictAlone() {
        SiteChoice x = crowded(599, 100, 100, 100, 100, 100, 100);
        x.fair(5, 0);
        due("run(0)", x.run(0), 2);
        due("clash", Towns.clash(x), "5");
    }

    /** "The least set has the fewest districts": {3, 4} before {0, 1, 2}. */
    static void promise16FewestDistricts() {
        SiteChoice x = crowded(11, 4, 4, 4, 6, 6);
        due("run(1)", x.run(1), 2);
        due("clash", Towns.clash(x), "3 4");
    }

    /** "of those it is the first by its numbers, rising": {0, 3} before {1, 2}. */
    static void promise16FirstByItsNumbers() {
        SiteChoice x = Towns.needs(5, 5, 5, 5);
        x.place(0, 0, 0, 9);
        x.place(0, 0, 0, 9);
        x.walk(0, 1, 1);
        x.walk(1, 0, 1);
        x.walk(2, 0, 1);
        x.walk(3, 1, 1);
        due("run(1)", x.run(1), 2);
        due("clash", Towns.clash(x), "0 3");
    }

    /** The same by the second number: {0, 2} before {0, 3}, and three before three. */
    static void promise16FirstByItsSecondNumber() {
        SiteChoice two = crowded(10, 6, 1, 5, 6, 0, 0);
        due("run(1)", two.run(1), 2);
        due("clash", Towns.clash(two), "0 2");
        SiteChoice three = crowded(11, 4, 1, 4, 4, 4, 4);
        due("run(1)", three.run(1), 2);
        due("clash", Towns.clash(three), "0 2 3");
    }

    /** A district without a need is never of the least set. */
    static void promise16NeedOf0() {
        SiteChoice x = crowded(9, 0, 5, 0, 5);
        due("run(1)", x.run(1), 2);
        due("clash", Towns.clash(x), "1 3");
    }

    /** By the budget, and by noise: what each can do alone they can't together. */
    static void promise16ByBudgetAndNoise() {
        due("clash by the budget", Towns.clash(Towns.stuck()), "0 1");
        SiteChoice x = Towns.pair();
        x.noise(1, 101);
        due("run(4)", x.run(4), 2);
        due("clash by noise", Towns.clash(x), "0 1");
    }

    /** "as things were at that run()" */
    static void promise16AsThingsWere() {
        SiteChoice x = Towns.stuck();
        x.budget(10000000);
        x.district(100);
        x.bar(0);
        x.bar(1);
        x.fair(0, 0);
        due("clash", Towns.clash(x), "0 1");
        x.improve(1);
        x.years(1);
        x.gain(0);
        due("clash after other calls", Towns.clash(x), "0 1");
    }

    /** "or run() answered otherwise" */
    static void promise16RunAnsweredOtherwise() {
        due("clash(0) before a run", Towns.pair().clash(0), NONE);
        due("clash(0) after 0", Towns.held().clash(0), NONE);
        SiteChoice found = Towns.stuck();
        found.budget(12);
        due("run(9)", found.run(9), 0);
        due("clash(0) after 2 and then 0", found.clash(0), NONE);
        SiteChoice many = Towns.stuck();
        due("run(0)", many.run(0), 1);
        due("clash(0) after 2 and then 1", many.clash(0), NONE);
    }

    /** What was found by run() stays until the next that is not refused. */
    static void promise16RefusedRun() {
        SiteChoice x = Towns.stuck();
        due("run(-1)", x.run(-1), NONE);
        due("clash", Towns.clash(x), "0 1");
    }

    /** A lesser set takes the stead of a greater one wholly. */
    static void promise16NothingIsLeftOfAnOlderSet() {
        SiteChoice x = Towns.stuck();
        x.fair(1, 0);
        due("run(0)", x.run(0), 2);
        due("clash(0)", x.clash(0), 1);
        due("clash(1)", x.clash(1), NONE);
    }

    static void promise16AskingChangesNothing() {
        for (int k = 0; k < 6; k++) {
            int at = k;
            changesNothing("clash(" + k + ")", x -> x.clash(at) >= NONE);
        }
    }

    public static void main(String[] args) {
        runAll(Promise16Tests.class);
    }
}

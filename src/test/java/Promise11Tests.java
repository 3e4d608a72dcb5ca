/** Promise 11, chosen: "Whether a place is given by the plan that is held; false when none is." */
public final class Promise11Tests extends Trial {
    /** "Whether a place is given by the plan that is held" */
    static void promise11GivenByThePlan() {
        SiteChoice x = Towns.held();
        due("chosen(0)", x.chosen(0), true);
        due("chosen(1)", x.chosen(1), true);
        due("chosen(2)", x.chosen(2), false);
    }

    /** The first place of all and the last, given to the last district alone. */
    static void promise11FirstAndLastPlace() {
        for (int given = 0; given < 5; given += 4) {
            SiteChoice x = Towns.needs(0, 0, 0, 0, 0, 1);
            for (int p = 0; p < 5; p++) {
                x.place(0, 0, 0, 1);
            }
            x.walk(5, given, 3);
            x.run(1);
            for (int p = 0; p < 5; p++) {
                due("chosen(" + p + ")", x.chosen(p), p == given);
            }
        }
    }

    /** A place that there is not is never given, and a district without one (NONE) gives no such place. */
    static void promise11PlaceMustBeThere() {
        SiteChoice x = Towns.held();
        for (int p : new int[] {-1, -2, 3, 5, Integer.MIN_VALUE, Integer.MAX_VALUE}) {
            due("chosen(" + p + ")", x.chosen(p), false);
        }
        SiteChoice full = Towns.full();
        for (int p : new int[] {-1, 5, Integer.MIN_VALUE, Integer.MAX_VALUE}) {
            due("chosen(" + p + ") when full", full.chosen(p), false);
        }
    }

    static void promise11WrongPlaceChangesNothing() {
        for (int p : new int[] {-1, 5, Integer.MIN_VALUE, Integer.MAX_VALUE}) {
            changesNothing("chosen(" + p + ")", x -> !x.chosen(p));
        }
    }

    /** "false when none is" held: before a run(), after one that found too many ways, after one without a plan. */
    static void promise11NoneIsHeld() {
        due("chosen(0) before a run", Towns.pair().chosen(0), false);
        SiteChoice x = Towns.held();
        x.run(0);
        due("chosen(0) after too many ways", x.chosen(0), false);
        SiteChoice stuck = Towns.stuck();
        due("chosen(0) without a plan", stuck.chosen(0), false);
        due("chosen(1) without a plan", stuck.chosen(1), false);
    }

    /** A place made since is not given. */
    static void promise11LaterPlace() {
        SiteChoice x = Towns.held();
        due("chosen(3) before it is made", x.chosen(3), false);
        x.place(0, 0, 0, 1000);
        due("chosen(3)", x.chosen(3), false);
    }

    /** It goes with improve() to what is given then. */
    static void promise11AfterAnExchange() {
        SiteChoice x = Towns.held();
        x.walk(0, 2, 0);
        due("improve(1)", x.improve(1), 1);
        due("chosen(1)", x.chosen(1), false);
        due("chosen(2)", x.chosen(2), true);
        due("chosen(0)", x.chosen(0), true);
    }

    /** A place is chosen still when one of the two that went to it goes elsewhere. */
    static void promise11GivenToTwo() {
        SiteChoice x = Towns.needs(1, 1);
        x.place(0, 0, 0, 2);
        x.place(0, 0, 0, 1);
        Towns.walks(x, 0, 1);
        Towns.walks(x, 1, 1);
        x.run(1);
        due("plan", Towns.plan(x, 2), "0 0: 2");
        x.walk(0, 1, 0);
        due("improve(9)", x.improve(9), 1);
        due("chosen(0)", x.chosen(0), true);
        due("chosen(1)", x.chosen(1), true);
    }

    static void promise11AskingChangesNothing() {
        for (int p = 0; p < 5; p++) {
            int place = p;
            changesNothing("chosen(" + p + ")", x -> x.chosen(place) || !x.chosen(place));
        }
    }

    public static void main(String[] args) {
        runAll(Promise11Tests.class);
    }
}

/** Promise 12, of: "The place that the plan held gives a district; NONE when it gives none, or none is held." */
public final class Promise12Tests extends Trial {
    /** "The place that the plan held gives a district", the first and the last of all. */
    static void promise12GivenToADistrict() {
        SiteChoice x = Towns.needs(1, 1, 1, 1, 1, 1);
        for (int p = 0; p < 5; p++) {
            x.place(0, 0, 0, 2);
            x.walk(p, p, 0);
        }
        x.walk(5, 4, 0);
        x.run(1);
        due("plan", Towns.plan(x, 6), "0 1 2 3 4 4: 0");
    }

    /** "NONE when it gives none": a district without a need. */
    static void promise12GivesNone() {
        due("of(2)", Towns.held().of(2), NONE);
    }

    /** A district made since is given none. */
    static void promise12LaterDistrict() {
        SiteChoice x = Towns.held();
        x.district(100);
        due("of(3)", x.of(3), NONE);
    }

    /** "or none is held": before a run(), after one that found too many ways, after one without a plan. */
    static void promise12NoneIsHeld() {
        due("of(0) before a run", Towns.pair().of(0), NONE);
        SiteChoice x = Towns.held();
        x.run(0);
        due("of(0) after too many ways", x.of(0), NONE);
        due("of(0) without a plan", Towns.stuck().of(0), NONE);
        due("of(1) without a plan", Towns.stuck().of(1), NONE);
    }

    /** "a call that names a district .. that there is not" */
    static void promise12DistrictMustBeThere() {
        SiteChoice x = Towns.held();
        for (int d : new int[] {-1, 3, 6, Integer.MIN_VALUE, Integer.MAX_VALUE}) {
            due("of(" + d + ")", x.of(d), NONE);
        }
        SiteChoice full = Towns.full();
        for (int d : new int[] {-1, 6, Integer.MIN_VALUE, Integer.MAX_VALUE}) {
            due("of(" + d + ") when full", full.of(d), NONE);
        }
        due("of(0) without districts", new SiteChoice().of(0), NONE);
    }

    static void promise12WrongDistrictChangesNothing() {
        for (int d : new int[] {-1, 6, Integer.MIN_VALUE, Integer.MAX_VALUE}) {
            changesNothing("of(" + d + ")", x -> x.of(d) == NONE);
        }
    }

    /** A plan found anew takes the stead of an older one wholly, with a district made since. */
    static void promise12NothingIsLeftOfAnOlderPlan() {
        SiteChoice x = Towns.held();
        x.place(0, 0, 0, 1000);
        x.district(1);
        for (int d = 0; d < 4; d++) {
            x.walk(d, 3, 0);
        }
        due("run(16)", x.run(16), 0);
        due("plan", Towns.plan(x, 4), "3 3 -1 3: 0");
    }

    static void promise12AskingChangesNothing() {
        for (int d = 0; d < 6; d++) {
            int district = d;
            changesNothing("of(" + d + ")", x -> x.of(district) >= NONE);
        }
    }

    public static void main(String[] args) {
        runAll(Promise12Tests.class);
    }
}

/** Promise 5, bar: "A place is barred. Answers true, or false; false also when it is already." */
public final class Promise05Tests extends Trial {
    /** "a call that names a .. place that there is not" */
    static void promise05PlaceMustBeThere() {
        takesJustInts("bar", 0, 1, p -> Towns.pair().bar((int) p));
        takesJustInts("bar when full", 0, 4, p -> Towns.full().bar((int) p));
        due("bar(0) without places", new SiteChoice().bar(0), false);
    }

    static void promise05RefusedOneChangesNothing() {
        for (int p : new int[] {-1, 5, Integer.MIN_VALUE, Integer.MAX_VALUE}) {
            changesNothing("bar(" + p + ")", x -> !x.bar(p));
        }
        changesNothing("bar(2) of a pair", Towns::pair, x -> !x.bar(2));
    }

    /** "false also when it is already" */
    static void promise05BarredAlreadyIsRefused() {
        changesNothing("bar(2) once more", Towns::stuck, x -> !x.bar(2));
        SiteChoice x = Towns.pair();
        due("bar(0)", x.bar(0), true);
        due("bar(0) again", x.bar(0), false);
        due("bar(0) a third time", x.bar(0), false);
        due("bar(1)", x.bar(1), true);
    }

    /** A refused one is not told: proved() stays. */
    static void promise05BarredAlreadyLeavesProved() {
        SiteChoice x = Towns.held();
        x.bar(2);
        due("run(4)", x.run(4), 0);
        due("bar(2) again", x.bar(2), false);
        due("proved()", x.proved(), true);
    }

    /** A refused one is not kept for a place that comes later. */
    static void promise05RefusedOneIsNotKeptForLater() {
        SiteChoice x = Towns.needs(1);
        due("bar(0)", x.bar(0), false);
        x.place(0, 0, 0, 1);
        x.walk(0, 0, 1);
        due("ways()", x.ways(), 1);
        due("bar(0)", x.bar(0), true);
        due("ways()", x.ways(), 0);
    }

    /** "none of it is barred" */
    static void promise05BarredPlaceIsNotGiven() {
        SiteChoice x = Towns.pair();
        x.place(50, 50, 0, 1000);
        Towns.walks(x, 0, 1, 4, 5);
        Towns.walks(x, 1, 2, 6, 7);
        x.bar(0);
        due("ways()", x.ways(), 4);
        due("run(4)", x.run(4), 0);
        due("plan", Towns.plan(x, 2), "2 1: 170");
        due("bound()", x.bound(), 160);
    }

    static void promise05AllBarredLeavesNoWay() {
        SiteChoice x = Towns.pair();
        x.bar(0);
        x.bar(1);
        due("ways()", x.ways(), 0);
        due("bound()", x.bound(), NONE);
        due("run(0)", x.run(0), 2);
        due("years(1)", x.years(1), NONE);
    }

    public static void main(String[] args) {
        runAll(Promise05Tests.class);
    }
}

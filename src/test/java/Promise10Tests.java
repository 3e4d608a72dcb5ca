/**
 * Promise 10, run: "0 when it is found (and held; without needs that gives no places, with the sum 0); 1 when
 * there are more ways than nodes (then nothing is looked for, and what was found and held goes); 2 when there
 * is no plan (nothing is held then). NONE when nodes are below 0 (what was held stays)."
 */
public final class Promise10Tests extends Trial {
    /** "0 when it is found (and held ..)" */
    static void promise10FoundIsHeld() {
        SiteChoice x = Towns.pair();
        due("run(4)", x.run(4), 0);
        due("plan", Towns.plan(x, 2), "1 0: 80");
    }

    /** "without needs that gives no places, with the sum 0" */
    static void promise10WithoutNeeds() {
        SiteChoice x = new SiteChoice();
        due("run(1) of a new object", x.run(1), 0);
        due("sum()", x.sum(), 0);
        due("proved()", x.proved(), true);
        SiteChoice idle = Towns.single(0, 0, 5, 5);
        due("run(1) with a need of 0", idle.run(1), 0);
        due("plan", Towns.plan(idle, 1), "-1: 0");
        due("chosen(0)", idle.chosen(0), false);
        due("improve(9)", idle.improve(9), 0);
    }

    /** "1 when there are more ways than nodes": one node fewer, as many, one more. */
    static void promise10MoreWaysThanNodes() {
        SiteChoice x = Towns.pair();
        due("run(3) with 4 ways", x.run(3), 1);
        due("run(4) with 4 ways", x.run(4), 0);
        due("run(5) with 4 ways", x.run(5), 0);
        SiteChoice full = Towns.full();
        due("run(15624) with 15625 ways", full.run(15624), 1);
        due("run(15625) with 15625 ways", full.run(15625), 0);
    }

    /** No needs are one way, and one way is more than no nodes. */
    static void promise10NoNodes() {
        SiteChoice x = new SiteChoice();
        due("run(0) without needs", x.run(0), 1);
        due("sum()", x.sum(), NONE);
        due("run(1) without needs", x.run(1), 0);
        due("run(0) with one way", Towns.single(1, 0, 1, 0).run(0), 1);
        due("run(0) with no way", Towns.needs(1).run(0), 2);
    }

    static void promise10GreatestNodes() {
        due("run(max)", Towns.pair().run(Long.MAX_VALUE), 0);
        due("run(2^32)", Towns.pair().run(1L << 32), 0);
        due("run(2^31)", Towns.pair().run(1L << 31), 0);
    }

    /** "then nothing is looked for, and what was found and held goes" */
    static void promise10TooManyWaysLetsAllGo() {
        SiteChoice x = Towns.held();
        due("run(8) with 9 ways", x.run(8), 1);
        due("plan", Towns.plan(x, 3), "-1 -1 -1: -1");
        due("chosen(0)", x.chosen(0), false);
        due("chosen(1)", x.chosen(1), false);
        due("improve(1)", x.improve(1), NONE);
        due("proved()", x.proved(), false);
        SiteChoice stuck = Towns.stuck();
        due("run(3) with 4 ways", stuck.run(3), 1);
        due("clash(0)", stuck.clash(0), NONE);
    }

    /** Too many ways are told also where there is no plan: nothing is looked for. */
    static void promise10TooManyWaysWithoutAPlan() {
        SiteChoice x = Towns.pair();
        x.budget(0);
        due("run(3)", x.run(3), 1);
        due("clash(0)", x.clash(0), NONE);
        due("run(4)", x.run(4), 2);
    }

    /** "2 when there is no plan (nothing is held then)" */
    static void promise10NoPlanHoldsNothing() {
        SiteChoice x = Towns.held();
        x.budget(0);
        due("run(9)", x.run(9), 2);
        due("plan", Towns.plan(x, 3), "-1 -1 -1: -1");
        due("chosen(0)", x.chosen(0), false);
        due("improve(0)", x.improve(0), NONE);
        due("proved()", x.proved(), false);
    }

    /** "NONE when nodes are below 0 (what was held stays)" */
    static void promise10NodesBelow0AreRefused() {
        for (long nodes : new long[] {-1, -2, Integer.MIN_VALUE, Long.MIN_VALUE}) {
            changesNothing("run(" + nodes + ")", x -> x.run(nodes) == NONE);
        }
        SiteChoice x = Towns.held();
        due("run(-1)", x.run(-1), NONE);
        due("plan", Towns.plan(x, 3), "1 0 -1: 80");
        due("proved()", x.proved(), true);
        due("clash after run(-1)", clashAfterRefusedRun(), "0 1");
    }

    private static String clashAfterRefusedRun() {
        SiteChoice x = Towns.stuck();
        x.run(-1);
        return Towns.clash(x);
    }

    /** A refused run() holds what the latest one held, though another plan would be the best by now. */
    static void promise10RefusedRunLooksForNothing() {
        SiteChoice x = Towns.held();
        x.budget(0);
        due("run(-1)", x.run(-1), NONE);
        due("plan", Towns.plan(x, 3), "1 0 -1: 80");
    }

    /** "for no place the needs of those that go to it together are above its room" */
    static void promise10NeedsAtTheRoom() {
        for (long room = 29; room <= 31; room++) {
            SiteChoice x = Towns.needs(10, 20);
            x.place(0, 0, 0, room);
            x.walk(0, 0, 1);
            x.walk(1, 0, 1);
            due("run(1) with room " + room + " for 30", x.run(1), room < 30 ? 2 : 0);
        }
    }

    /** The greatest needs together are 600. */
    static void promise10GreatestNeedsAtTheRoom() {
        for (long room : new long[] {599, 600, 1000}) {
            SiteChoice x = Towns.needs(100, 100, 100, 100, 100, 100);
            x.place(0, 0, 0, room);
            for (int d = 0; d < 6; d++) {
                x.walk(d, 0, 10000);
            }
            due("run(1) with room " + room, x.run(1), room < 600 ? 2 : 0);
            due("sum() with room " + room, x.sum(), room < 600 ? NONE : 6000000);
        }
    }

    /** "all that have a need above 0 must have one, and no others" */
    static void promise10NeedOf0GetsNoPlace() {
        SiteChoice x = Towns.pair();
        x.district(0);
        Towns.walks(x, 2, 0, 0);
        due("run(4)", x.run(4), 0);
        due("plan", Towns.plan(x, 3), "1 0 -1: 80");
    }

    /** A district without a need may be one that can go nowhere. */
    static void promise10NeedOf0NeedsNoWalk() {
        SiteChoice x = Towns.pair();
        x.district(0);
        due("run(4)", x.run(4), 0);
    }

    /** "of two the one that gives the lesser place to the first district for which they differ" */
    static void promise10FirstOfEquals() {
        SiteChoice x = Towns.needs(10, 0, 10);
        for (int p = 0; p < 3; p++) {
            x.place(0, 0, 0, 10);
        }
        Towns.walks(x, 0, 7, 7, 7);
        Towns.walks(x, 1, 7, 7, 7);
        Towns.walks(x, 2, 7, 7, 7);
        due("run(9)", x.run(9), 0);
        due("plan", Towns.plan(x, 3), "0 -1 1: 140");
        x.bar(0);
        due("run(4)", x.run(4), 0);
        due("plan with a barred place", Towns.plan(x, 3), "1 -1 2: 140");
    }

    /** The first district counts more than all later ones: 0 with 2 before 1 with 0. */
    static void promise10FirstDistrictOfEqualsCounts() {
        SiteChoice x = Towns.needs(1, 1);
        for (int p = 0; p < 3; p++) {
            x.place(0, 0, 0, 1);
        }
        Towns.walks(x, 0, 3, 2, 9);
        Towns.walks(x, 1, 3, 9, 2);
        due("run(9)", x.run(9), 0);
        due("plan", Towns.plan(x, 2), "1 2: 4");
        x.walk(0, 0, 2);
        x.walk(1, 0, 2);
        due("run(9)", x.run(9), 0);
        due("plan of equals", Towns.plan(x, 2), "0 2: 4");
    }

    /** A lesser sum goes before a lesser place. */
    static void promise10LeastSumGoesFirst() {
        SiteChoice x = Towns.needs(1);
        for (int p = 0; p < 5; p++) {
            x.place(0, 0, 0, 1);
        }
        Towns.walks(x, 0, 10000, 9999, 9999, 9998, 10000);
        due("run(5)", x.run(5), 0);
        due("plan", Towns.plan(x, 1), "3: 9998");
    }

    /** "Its SUM are the needs, each times its walk": costs are no part of it. */
    static void promise10CostsAreNoPartOfTheSum() {
        SiteChoice x = Towns.needs(2);
        x.place(0, 0, 1000000, 2);
        x.place(0, 0, 0, 2);
        Towns.walks(x, 0, 5, 6);
        x.run(2);
        due("plan", Towns.plan(x, 1), "0: 10");
    }

    /** A run() that found no plan leaves nothing behind: the next one finds the best, not just some plan. */
    static void promise10BestAfterNoPlan() {
        SiteChoice x = Towns.stuck();
        x.budget(12);
        due("run(4)", x.run(4), 0);
        due("plan", Towns.plan(x, 3), "1 0 -1: 80");
    }

    public static void main(String[] args) {
        runAll(Promise10Tests.class);
    }
}

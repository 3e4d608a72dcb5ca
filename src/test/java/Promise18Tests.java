/**
 * Promise 18, improve: "Exchanges in the plan held, at most so many, by things as they are .. Answers how many
 * were kept; NONE when none is held or steps are below 0. What the plan is, and its sum (by walks and needs
 * now, also with 0 exchanges), are as it is then; proved() stays as it was."
 */
public final class Promise18Tests extends Trial {
    /** One district, four places for it, the walk to place 0 the longest, the plan held at place 0. */
    private static SiteChoice farFromAll() {
        SiteChoice x = Towns.needs(2);
        for (int p = 0; p < 4; p++) {
            x.place(p, 0, 1, 2);
        }
        Towns.walks(x, 0, 1, 8, 7, 6);
        x.run(4);
        x.walk(0, 0, 9);
        return x;
    }

    /** Three districts, each of which can take its own nearer place. */
    private static SiteChoice threeToMove() {
        SiteChoice x = Towns.needs(1, 1, 1);
        for (int p = 0; p < 4; p++) {
            x.place(p, 0, 0, 3);
        }
        for (int d = 0; d < 3; d++) {
            x.walk(d, 3, 10);
        }
        x.run(1);
        for (int d = 0; d < 3; d++) {
            x.walk(d, d, 1);
        }
        return x;
    }

    /** "NONE when none is held": before a run(), after one that found too many ways, after one without a plan. */
    static void promise18NoneIsHeld() {
        for (int steps : new int[] {0, 1, Integer.MAX_VALUE}) {
            due("improve of a new object", new SiteChoice().improve(steps), NONE);
            due("improve before a run", Towns.pair().improve(steps), NONE);
            due("improve without a plan", Towns.stuck().improve(steps), NONE);
            SiteChoice x = Towns.held();
            x.run(0);
            due("improve after too many ways", x.improve(steps), NONE);
        }
    }

    static void promise18NoneIsHeldChangesNothing() {
        changesNothing("improve(9)", SiteChoice::new, x -> x.improve(9) == NONE);
        changesNothing("improve(9)", Towns::pair, x -> x.improve(9) == NONE);
        changesNothing("improve(9)", Towns::stuck, x -> x.improve(9) == NONE);
    }

    /** "or steps are below 0" */
    static void promise18StepsBelow0AreRefused() {
        for (int steps : new int[] {-1, -2, Integer.MIN_VALUE}) {
            changesNothing("improve(" + steps + ")", x -> x.improve(steps) == NONE);
            changesNothing("improve(" + steps + ")", Promise18Tests::farFromAll, x -> x.improve(steps) == NONE);
        }
    }

    /** A refused one does not even reckon the sum anew. */
    static void promise18RefusedOneLeavesTheSum() {
        SiteChoice x = farFromAll();
        due("improve(-1)", x.improve(-1), NONE);
        due("plan", Towns.plan(x, 1), "0: 2");
    }

    /** "its sum (by walks and needs now, also with 0 exchanges)" */
    static void promise18NoStepsReckonTheSum() {
        SiteChoice x = farFromAll();
        due("improve(0)", x.improve(0), 0);
        due("plan", Towns.plan(x, 1), "0: 18");
    }

    /** The same with steps, when there is nothing to exchange. */
    static void promise18NoExchangeReckonsTheSum() {
        SiteChoice x = Towns.single(5, 0, 5, 3);
        x.run(1);
        x.walk(0, 0, 10000);
        due("improve(9)", x.improve(9), 0);
        due("sum()", x.sum(), 50000);
    }

    /** The sum is reckoned also when the plan is none any more: above the most, the budget, barred. */
    static void promise18SumOfWhatIsNoPlan() {
        SiteChoice x = Towns.held();
        x.walk(0, 1, 5);
        x.fair(0, 0);
        x.budget(0);
        x.bar(0);
        due("improve(9)", x.improve(9), 0);
        due("plan", Towns.plan(x, 3), "1 0 -1: 90");
    }

    /** "at most so many" */
    static void promise18AtMostSoMany() {
        for (int steps = 0; steps <= 4; steps++) {
            SiteChoice x = threeToMove();
            int kept = Math.min(steps, 3);
            due("improve(" + steps + ")", x.improve(steps), kept);
            due("sum()", x.sum(), 30 - 9 * kept);
            for (int d = 0; d < 3; d++) {
                due("of(" + d + ")", x.of(d), d < kept ? d : 3);
            }
        }
    }

    static void promise18GreatestSteps() {
        SiteChoice x = threeToMove();
        due("improve(max)", x.improve(Integer.MAX_VALUE), 3);
        due("plan", Towns.plan(x, 3), "0 1 2: 3");
        due("improve(max) once more", x.improve(Integer.MAX_VALUE), 0);
    }

    /** "the first, by districts, then by places": not the one that wins most. */
    static void promise18FirstByPlaces() {
        SiteChoice x = farFromAll();
        due("improve(1)", x.improve(1), 1);
        due("plan", Towns.plan(x, 1), "1: 16");
        due("improve(1)", x.improve(1), 1);
        due("plan", Towns.plan(x, 1), "2: 14");
        due("improve(9)", x.improve(9), 1);
        due("plan", Towns.plan(x, 1), "3: 12");
    }

    /** District 0 goes before district 1, though place 0 is the lesser and wins more. */
    static void promise18FirstByDistricts() {
        SiteChoice x = Towns.needs(1, 1);
        for (int p = 0; p < 3; p++) {
            x.place(0, 0, 0, 2);
        }
        x.walk(0, 2, 9);
        x.walk(1, 2, 9);
        x.run(1);
        x.walk(0, 1, 8);
        x.walk(1, 0, 0);
        due("improve(1)", x.improve(1), 1);
        due("plan", Towns.plan(x, 2), "1 2: 17");
    }

    /** After each exchange it begins anew with district 0: room that came free is seen. */
    static void promise18BeginsAnew() {
        SiteChoice x = Towns.pair();
        x.place(0, 300, 1, 100);
        x.run(4);
        x.walk(1, 2, 1);
        due("improve(1)", x.improve(1), 1);
        due("plan", Towns.plan(x, 2), "1 2: 60");
        due("improve(1)", x.improve(1), 1);
        due("plan", Towns.plan(x, 2), "0 2: 30");
    }

    /** "what its sum is now becomes less": as much is not less, one metre is. */
    static void promise18SumBecomesLess() {
        SiteChoice x = farFromAll();
        Towns.walks(x, 0, 6, 6, 6, 6);
        due("improve(9) with equal walks", x.improve(9), 0);
        x.walk(0, 3, 5);
        due("improve(9) with a metre less", x.improve(9), 1);
        due("plan", Towns.plan(x, 1), "3: 10");
    }

    /** Only one district changes: two that would have to change places stay. */
    static void promise18OneDistrictAtATime() {
        SiteChoice x = Towns.needs(1, 1);
        x.place(0, 0, 0, 1);
        x.place(9, 0, 0, 1);
        Towns.walks(x, 0, 1, 5);
        Towns.walks(x, 1, 5, 1);
        x.run(4);
        Towns.walks(x, 0, 5, 1);
        Towns.walks(x, 1, 1, 5);
        due("improve(9)", x.improve(9), 0);
        due("plan", Towns.plan(x, 2), "0 1: 10");
    }

    /** "so that it is a plan still": at the room, not above. */
    static void promise18Room() {
        for (long room = 9; room <= 10; room++) {
            SiteChoice x = Towns.single(10, 0, 10, 5);
            x.place(0, 0, 0, room);
            x.run(1);
            x.walk(0, 1, 0);
            due("improve(1) with room " + room + " for 10", x.improve(1), room - 9);
        }
    }

    /** At the budget, not above. */
    static void promise18Budget() {
        SiteChoice x = farFromAll();
        x.budget(0);
        due("improve(1) with too few cents", x.improve(1), 0);
        x.budget(1);
        due("improve(1) at the budget", x.improve(1), 1);
    }

    /** At the distance, not nearer. */
    static void promise18Noise() {
        SiteChoice x = Towns.held();
        x.walk(0, 2, 0);
        x.noise(2, 301);
        due("improve(1) too near", x.improve(1), 0);
        x.noise(2, 300);
        due("improve(1) at the distance", x.improve(1), 1);
        due("plan", Towns.plan(x, 3), "2 0 -1: 40");
    }

    /** At the most, not above. */
    static void promise18Most() {
        SiteChoice x = farFromAll();
        x.fair(0, 5);
        due("improve(1) above the most", x.improve(1), 0);
        x.fair(0, 6);
        due("improve(1) at the most", x.improve(1), 1);
        due("plan", Towns.plan(x, 1), "3: 12");
    }

    /** Not to a barred place, nor where no walk was told. */
    static void promise18BarredOrUntold() {
        SiteChoice x = farFromAll();
        x.bar(1);
        x.bar(2);
        x.bar(3);
        x.place(0, 0, 0, 1000);
        due("improve(9)", x.improve(9), 0);
        x.walk(0, 4, 0);
        due("improve(9) with a walk told", x.improve(9), 1);
        due("plan", Towns.plan(x, 1), "4: 0");
    }

    /** "(by things as they are)": away from a place that was barred since, if the sum becomes less. */
    static void promise18AwayFromABarredPlace() {
        SiteChoice x = farFromAll();
        x.bar(0);
        due("improve(1)", x.improve(1), 1);
        due("plan", Towns.plan(x, 1), "1: 16");
    }

    /** Two barred places at once can't be left by one exchange. */
    static void promise18TwoBarredPlaces() {
        SiteChoice x = Towns.held();
        x.place(9, 9, 0, 1000);
        x.walk(0, 3, 0);
        x.walk(1, 3, 0);
        x.bar(0);
        x.bar(1);
        due("improve(9)", x.improve(9), 0);
        due("plan", Towns.plan(x, 3), "1 0 -1: 80");
    }

    /** A district made since with a need makes every exchange none of a plan, one without a need does not. */
    static void promise18LaterDistrict() {
        SiteChoice x = farFromAll();
        x.district(0);
        x.walk(1, 3, 0);
        due("improve(1) with a need of 0", x.improve(1), 1);
        x.district(1);
        x.walk(2, 3, 0);
        due("improve(1) with a need of 1", x.improve(1), 0);
        due("plan", Towns.plan(x, 3), "1 -1 -1: 16");
    }

    /** A plan without needs is held, and has nothing to exchange. */
    static void promise18WithoutNeeds() {
        SiteChoice x = new SiteChoice();
        x.run(1);
        due("improve(0)", x.improve(0), 0);
        due("improve(max)", x.improve(Integer.MAX_VALUE), 0);
        due("sum()", x.sum(), 0);
    }

    /** "proved() stays as it was" */
    static void promise18ProvedStays() {
        SiteChoice x = Towns.held();
        x.improve(9);
        due("proved() that is", x.proved(), true);
        SiteChoice moved = farFromAll();
        due("improve(9)", moved.improve(9), 3);
        due("proved() that is not", moved.proved(), false);
    }

    /** With as many districts and places as there can be, and the last ones exchanged. */
    static void promise18LastOfAll() {
        SiteChoice x = Towns.full();
        due("of(5)", x.of(5), 4);
        x.walk(5, 4, 10000);
        x.walk(5, 3, 9999);
        due("improve(1)", x.improve(1), 1);
        due("of(5), the first place that is nearer", x.of(5), 1);
        due("improve(0)", x.improve(0), 0);
        SiteChoice last = Towns.full();
        last.walk(1, 4, 0);
        last.bar(0);
        due("improve(9) with a place barred that is given", last.improve(9), 0);
        due("of(1)", last.of(1), 3);
    }

    /** What years() looked at last is nothing to an exchange. */
    static void promise18AfterYears() {
        SiteChoice x = farFromAll();
        x.budget(1);
        due("years(1)", x.years(1), 1 + 12);
        due("improve(1)", x.improve(1), 1);
        due("plan", Towns.plan(x, 1), "1: 16");
    }

    public static void main(String[] args) {
        runAll(Promise18Tests.class);
    }
}

/** For each promise of the document: ordinary inputs, its edges, and wrong inputs. */
public final class PromiseTests {
    private static final long NONE = -1L;
    private static int wrong = 0;

    private static void due(int promise, String call, long got, long want) {
        if (got != want) {
            wrong++;
            System.out.println("promise " + promise + ": " + call + " answered " + got + ", due is " + want);
        }
    }

    private static void due(int promise, String call, boolean got, boolean want) {
        due(promise, call, got ? 1L : 0L, want ? 1L : 0L);
    }

    /** Two districts (needs 10 and 20) and two places (room 20 each, cost 5 and 7), 100 apart, all walks told. */
    private static SiteChoice pair() {
        SiteChoice x = new SiteChoice();
        x.district(10);
        x.district(20);
        x.place(0, 0, 5, 20);
        x.place(100, 0, 7, 20);
        x.walk(0, 0, 1);
        x.walk(0, 1, 4);
        x.walk(1, 0, 2);
        x.walk(1, 1, 6);
        return x;
    }

    private static void newObject() {
        SiteChoice x = new SiteChoice();
        due(1, "NONE", SiteChoice.NONE, NONE);
        due(1, "sum()", x.sum(), NONE);
        due(1, "proved()", x.proved(), false);
        due(1, "chosen(0)", x.chosen(0), false);
        due(1, "of(0)", x.of(0), NONE);
        due(1, "clash(0)", x.clash(0), NONE);
        due(1, "improve(1)", x.improve(1), NONE);
        due(1, "open(0, 0)", x.open(0, 0), NONE);
        due(1, "gain(0)", x.gain(0), NONE);
        due(1, "ways()", x.ways(), 1);
        due(1, "bound()", x.bound(), 0);
        due(1, "bar(0)", x.bar(0), false);
        due(1, "fair(0, 0)", x.fair(0, 0), false);
        due(1, "place(0, 0, 0, 0)", x.place(0, 0, 0, 0), 0);
        due(1, "open(0, 0) before years", x.open(0, 0), NONE);
        due(1, "gain(0) without needs", x.gain(0), 0);
    }

    private static void district() {
        SiteChoice x = new SiteChoice();
        due(2, "district(-1)", x.district(-1), NONE);
        due(2, "district(101)", x.district(101), NONE);
        due(2, "district(min)", x.district(Long.MIN_VALUE), NONE);
        due(2, "district(max)", x.district(Long.MAX_VALUE), NONE);
        due(2, "district(2^32)", x.district(1L << 32), NONE);
        due(2, "district(0)", x.district(0), 0);
        due(2, "district(100)", x.district(100), 1);
        for (int d = 2; d < 6; d++) {
            due(2, "district(1)", x.district(1), d);
        }
        due(2, "seventh district(1)", x.district(1), NONE);
        due(2, "fair(5, 1)", x.fair(5, 1), true);
        due(2, "fair(6, 1)", x.fair(6, 1), false);
    }

    private static void place() {
        SiteChoice x = new SiteChoice();
        due(3, "place(-1001, ..)", x.place(-1001, 0, 0, 0), NONE);
        due(3, "place(1001, ..)", x.place(1001, 0, 0, 0), NONE);
        due(3, "place(0, -1001, ..)", x.place(0, -1001, 0, 0), NONE);
        due(3, "place(0, 1001, ..)", x.place(0, 1001, 0, 0), NONE);
        due(3, "place(0, 0, -1, 0)", x.place(0, 0, -1, 0), NONE);
        due(3, "place(0, 0, 1000001, 0)", x.place(0, 0, 1000001, 0), NONE);
        due(3, "place(0, 0, 0, -1)", x.place(0, 0, 0, -1), NONE);
        due(3, "place(0, 0, 0, 1001)", x.place(0, 0, 0, 1001), NONE);
        due(3, "place(min ..)", x.place(Long.MIN_VALUE, Long.MAX_VALUE, 1L << 40, -(1L << 40)), NONE);
        due(3, "bar(0) after refused ones", x.bar(0), false);
        due(3, "place(-1000, 1000, 1000000, 1000)", x.place(-1000, 1000, 1000000, 1000), 0);
        due(3, "place(1000, -1000, 0, 0)", x.place(1000, -1000, 0, 0), 1);
        for (int p = 2; p < 5; p++) {
            due(3, "place(0, 0, 0, 0)", x.place(0, 0, 0, 0), p);
        }
        due(3, "sixth place", x.place(0, 0, 0, 0), NONE);
        due(3, "bar(4)", x.bar(4), true);
        due(3, "bar(5)", x.bar(5), false);
    }

    private static void walk() {
        SiteChoice x = new SiteChoice();
        x.district(3);
        x.place(0, 0, 0, 3);
        due(4, "walk(-1, 0, 1)", x.walk(-1, 0, 1), false);
        due(4, "walk(1, 0, 1)", x.walk(1, 0, 1), false);
        due(4, "walk(0, -1, 1)", x.walk(0, -1, 1), false);
        due(4, "walk(0, 1, 1)", x.walk(0, 1, 1), false);
        due(4, "walk(0, 0, -1)", x.walk(0, 0, -1), false);
        due(4, "walk(0, 0, 10001)", x.walk(0, 0, 10001), false);
        due(4, "walk(max, min, max)", x.walk(Integer.MAX_VALUE, Integer.MIN_VALUE, Long.MAX_VALUE), false);
        due(4, "ways() without walks", x.ways(), 0);
        due(4, "walk(0, 0, 10000)", x.walk(0, 0, 10000), true);
        due(4, "bound()", x.bound(), 30000);
        due(4, "walk(0, 0, 0) in its stead", x.walk(0, 0, 0), true);
        due(4, "bound()", x.bound(), 0);
        due(4, "ways()", x.ways(), 1);
        x.run(1);
        due(4, "proved()", x.proved(), true);
        due(4, "walk(0, 0, 10001)", x.walk(0, 0, 10001), false);
        due(4, "proved() after a refused one", x.proved(), true);
        due(4, "walk(0, 0, 0) once more", x.walk(0, 0, 0), true);
        due(4, "proved() after the same walk", x.proved(), false);
    }

    private static void bar() {
        SiteChoice x = pair();
        due(5, "bar(-1)", x.bar(-1), false);
        due(5, "bar(2)", x.bar(2), false);
        due(5, "ways()", x.ways(), 4);
        due(5, "bar(0)", x.bar(0), true);
        due(5, "ways()", x.ways(), 1);
        x.district(0);
        x.run(9);
        due(5, "bar(0) again", x.bar(0), false);
        due(5, "run(9) with one place left", x.run(9), 2);
        due(5, "bound()", x.bound(), 160);
    }

    private static void noise() {
        SiteChoice x = pair();
        due(6, "noise(-1, 0)", x.noise(-1, 0), false);
        due(6, "noise(2, 0)", x.noise(2, 0), false);
        due(6, "noise(0, -1)", x.noise(0, -1), false);
        due(6, "noise(0, 3001)", x.noise(0, 3001), false);
        due(6, "run(9)", x.run(9), 0);
        due(6, "noise(0, 100)", x.noise(0, 100), true);
        due(6, "run(9) at the distance itself", x.run(9), 0);
        due(6, "noise(1, 101)", x.noise(1, 101), true);
        due(6, "run(9) by the greater noise", x.run(9), 2);
        due(6, "noise(1, 0)", x.noise(1, 0), true);
        due(6, "run(9)", x.run(9), 0);
        due(6, "noise(0, 3000)", x.noise(0, 3000), true);
        due(6, "run(9)", x.run(9), 2);
        noiseOfOneSpot();
    }

    private static void noiseOfOneSpot() {
        SiteChoice x = new SiteChoice();
        x.district(10);
        x.district(10);
        x.place(5, 5, 0, 10);
        x.place(5, 5, 0, 10);
        for (int d = 0; d < 2; d++) {
            x.walk(d, 0, 1);
            x.walk(d, 1, 1);
        }
        due(6, "run(9) at one spot without noise", x.run(9), 0);
        x.noise(1, 1);
        due(6, "run(9) at one spot with noise", x.run(9), 2);
    }

    private static void budget() {
        SiteChoice x = pair();
        due(7, "budget(-1)", x.budget(-1), false);
        due(7, "budget(10000001)", x.budget(10000001), false);
        due(7, "budget(12)", x.budget(12), true);
        due(7, "run(9)", x.run(9), 0);
        due(7, "budget(max)", x.budget(Long.MAX_VALUE), false);
        due(7, "proved() after a refused one", x.proved(), true);
        due(7, "budget(12) once more", x.budget(12), true);
        due(7, "proved() after the same budget", x.proved(), false);
        due(7, "budget(11)", x.budget(11), true);
        due(7, "run(9)", x.run(9), 2);
        due(7, "budget(0)", x.budget(0), true);
        due(7, "budget(10000000)", x.budget(10000000), true);
        due(7, "run(9)", x.run(9), 0);
    }

    private static void fair() {
        SiteChoice x = pair();
        due(8, "fair(-1, 1)", x.fair(-1, 1), false);
        due(8, "fair(2, 1)", x.fair(2, 1), false);
        due(8, "fair(0, -1)", x.fair(0, -1), false);
        due(8, "fair(0, 10001)", x.fair(0, 10001), false);
        due(8, "ways()", x.ways(), 4);
        due(8, "fair(1, 6)", x.fair(1, 6), true);
        due(8, "ways() at the most itself", x.ways(), 4);
        due(8, "fair(1, 5)", x.fair(1, 5), true);
        due(8, "ways()", x.ways(), 2);
        due(8, "fair(1, 0)", x.fair(1, 0), true);
        due(8, "ways()", x.ways(), 0);
        due(8, "fair(1, 10000)", x.fair(1, 10000), true);
        due(8, "ways()", x.ways(), 4);
    }

    private static void ways() {
        SiteChoice x = new SiteChoice();
        due(9, "ways()", x.ways(), 1);
        x.district(0);
        due(9, "ways() with a need of 0", x.ways(), 1);
        for (int p = 0; p < 5; p++) {
            x.place(0, 0, 1000000, 0);
            x.noise(p, 3000);
        }
        for (int d = 1; d < 6; d++) {
            x.district(1);
            due(9, "ways() with a district that can go nowhere", x.ways(), 0);
            for (int p = 0; p < 5; p++) {
                x.walk(d, p, p);
            }
        }
        x.budget(0);
        due(9, "ways() whatever budget, rooms and noises are", x.ways(), 3125);
        x.bar(2);
        due(9, "ways() with a barred place", x.ways(), 1024);
    }

    private static void run() {
        SiteChoice x = pair();
        due(10, "run(3) with 4 ways", x.run(3), 1);
        due(10, "sum()", x.sum(), NONE);
        due(10, "run(4) with 4 ways", x.run(4), 0);
        due(10, "sum()", x.sum(), 80);
        due(10, "run(-1)", x.run(-1), NONE);
        due(10, "run(min)", x.run(Long.MIN_VALUE), NONE);
        due(10, "sum() after a refused run", x.sum(), 80);
        due(10, "proved() after a refused run", x.proved(), true);
        due(10, "run(0)", x.run(0), 1);
        due(10, "sum() after too many ways", x.sum(), NONE);
        due(10, "of(0) after too many ways", x.of(0), NONE);
        due(10, "chosen(0) after too many ways", x.chosen(0), false);
        due(10, "improve(0) after too many ways", x.improve(0), NONE);
        due(10, "run(max)", x.run(Long.MAX_VALUE), 0);
        x.bar(0);
        due(10, "run(1)", x.run(1), 2);
        due(10, "sum() without a plan", x.sum(), NONE);
        due(10, "clash(0)", x.clash(0), 0);
        due(10, "run(-1)", x.run(-1), NONE);
        due(10, "clash(0) after a refused run", x.clash(0), 0);
        due(10, "run(0)", x.run(0), 1);
        due(10, "clash(0) after too many ways", x.clash(0), NONE);
        runTies();
    }

    private static void runTies() {
        SiteChoice x = new SiteChoice();
        for (int p = 0; p < 3; p++) {
            x.place(0, 0, 0, 10);
        }
        for (int d = 0; d < 3; d++) {
            x.district(d == 1 ? 0 : 10);
            for (int p = 0; p < 3; p++) {
                x.walk(d, p, 7);
            }
        }
        due(10, "run(9)", x.run(9), 0);
        due(10, "of(0), the first of equals", x.of(0), 0);
        due(10, "of(1), without a need", x.of(1), NONE);
        due(10, "of(2), the first of equals", x.of(2), 1);
        due(10, "sum()", x.sum(), 140);
        x.walk(0, 2, 6);
        x.walk(2, 2, 6);
        due(10, "run(9)", x.run(9), 0);
        due(10, "of(0), the lesser place first", x.of(0), 0);
        due(10, "of(2)", x.of(2), 2);
    }

    private static void chosenAndOf() {
        SiteChoice x = pair();
        x.place(500, 500, 0, 100);
        x.run(9);
        due(11, "chosen(0)", x.chosen(0), true);
        due(11, "chosen(1)", x.chosen(1), true);
        due(11, "chosen(2)", x.chosen(2), false);
        due(11, "chosen(3)", x.chosen(3), false);
        due(11, "chosen(-1)", x.chosen(-1), false);
        due(11, "chosen(max)", x.chosen(Integer.MAX_VALUE), false);
        due(12, "of(0)", x.of(0), 1);
        due(12, "of(1)", x.of(1), 0);
        due(12, "of(2)", x.of(2), NONE);
        due(12, "of(-1)", x.of(-1), NONE);
        due(12, "of(min)", x.of(Integer.MIN_VALUE), NONE);
        x.bar(0);
        x.budget(0);
        x.district(50);
        due(11, "chosen(0) whatever is told", x.chosen(0), true);
        due(12, "of(1) whatever is told", x.of(1), 0);
        due(12, "of(2) of a later district", x.of(2), NONE);
        x.run(9);
        due(11, "chosen(0) without a plan", x.chosen(0), false);
        due(12, "of(1) without a plan", x.of(1), NONE);
    }

    private static void sum() {
        SiteChoice x = pair();
        due(13, "sum() before a run", x.sum(), NONE);
        x.run(9);
        due(13, "sum()", x.sum(), 80);
        x.walk(1, 0, 3);
        due(13, "sum() when it was found", x.sum(), 80);
        x.improve(0);
        due(13, "sum() when it was improved", x.sum(), 100);
        SiteChoice none = new SiteChoice();
        none.run(1);
        due(13, "sum() without needs", none.sum(), 0);
    }

    private static void bound() {
        SiteChoice x = pair();
        due(14, "bound()", x.bound(), 50);
        x.fair(1, 1);
        due(14, "bound() when one can go nowhere", x.bound(), NONE);
        x.fair(1, 6);
        x.bar(0);
        due(14, "bound() with a barred place", x.bound(), 160);
        x.budget(0);
        due(14, "bound() whatever the budget is", x.bound(), 160);
        x.district(0);
        due(14, "bound() with a need of 0", x.bound(), 160);
        x.district(1);
        due(14, "bound() with no walk told", x.bound(), NONE);
    }

    private static void proved() {
        SiteChoice x = pair();
        due(15, "proved() before a run", x.proved(), false);
        x.run(9);
        due(15, "proved()", x.proved(), true);
        x.run(-1);
        x.district(101);
        x.place(0, 0, 0, 1001);
        x.walk(0, 5, 0);
        x.bar(2);
        x.noise(0, 3001);
        x.budget(-1);
        x.fair(2, 0);
        x.years(2);
        x.gain(0);
        x.improve(1);
        due(15, "proved() after refused ones and questions", x.proved(), true);
        for (int kind = 0; kind < 7; kind++) {
            due(15, "run(9)", x.run(9), 0);
            due(15, "proved()", x.proved(), true);
            tell(x, kind);
            due(15, "proved() after telling " + kind, x.proved(), false);
            x.improve(1);
            due(15, "proved() after improve", x.proved(), false);
        }
        x.run(0);
        due(15, "proved() after too many ways", x.proved(), false);
        x.budget(0);
        x.run(9);
        due(15, "proved() without a plan", x.proved(), false);
    }

    private static void tell(SiteChoice x, int kind) {
        switch (kind) {
            case 0 -> x.district(0);
            case 1 -> x.place(0, 0, 0, 0);
            case 2 -> x.walk(0, 0, 1);
            case 3 -> x.bar(2);
            case 4 -> x.noise(0, 0);
            case 5 -> x.budget(12);
            default -> x.fair(0, 10000);
        }
    }

    private static void clash() {
        SiteChoice x = new SiteChoice();
        long[] needs = {5, 0, 6, 7, 7, 4};
        x.place(0, 0, 0, 12);
        for (int d = 0; d < 6; d++) {
            x.district(needs[d]);
            x.walk(d, 0, 1);
        }
        due(16, "clash(0) before a run", x.clash(0), NONE);
        due(16, "run(9)", x.run(9), 2);
        due(16, "clash(0)", x.clash(0), 2);
        due(16, "clash(1)", x.clash(1), 3);
        due(16, "clash(2)", x.clash(2), NONE);
        due(16, "clash(-1)", x.clash(-1), NONE);
        due(16, "clash(max)", x.clash(Integer.MAX_VALUE), NONE);
        x.fair(5, 0);
        x.place(1, 1, 0, 1000);
        for (int d = 0; d < 6; d++) {
            x.walk(d, 1, 1);
        }
        due(16, "clash(0) as things were", x.clash(0), 2);
        due(16, "run(99)", x.run(99), 2);
        due(16, "clash(0), the fewest", x.clash(0), 5);
        due(16, "clash(1)", x.clash(1), NONE);
        x.fair(5, 1);
        due(16, "run(99)", x.run(99), 0);
        due(16, "clash(0) with a plan", x.clash(0), NONE);
    }

    private static void clashOrder() {
        SiteChoice x = new SiteChoice();
        for (int d = 0; d < 4; d++) {
            x.district(5);
        }
        x.place(0, 0, 0, 9);
        x.place(9, 9, 0, 9);
        x.walk(1, 0, 1);
        x.walk(2, 0, 1);
        x.walk(0, 1, 1);
        x.walk(3, 1, 1);
        due(16, "run(1)", x.run(1), 2);
        due(16, "clash(0) of {0, 3} before {1, 2}", x.clash(0), 0);
        due(16, "clash(1) of {0, 3} before {1, 2}", x.clash(1), 3);
    }

    private static void gain() {
        SiteChoice x = pair();
        due(17, "gain(0) by more room", x.gain(0), 30);
        due(17, "gain(1) that wins nothing", x.gain(1), 0);
        due(17, "gain(2)", x.gain(2), NONE);
        due(17, "gain(-1)", x.gain(-1), NONE);
        due(17, "place(0, 1, 13, 100)", x.place(0, 1, 13, 100), 2);
        x.walk(0, 2, 0);
        x.budget(12);
        due(17, "gain(2) by no cost", x.gain(2), 40);
        x.bar(2);
        due(17, "gain(2) of a barred one", x.gain(2), 0);
        x.run(9);
        due(17, "sum() is left", x.sum(), 80);
        due(17, "gain(0) after a run", x.gain(0), 30);
        due(17, "sum() is left by gain", x.sum(), 80);
        x.budget(11);
        due(17, "gain(0) without a plan", x.gain(0), NONE);
        due(17, "gain(2) of a barred one without a plan", x.gain(2), NONE);
        due(17, "run(9), as gain changes nothing", x.run(9), 2);
    }

    private static void improve() {
        SiteChoice x = pair();
        x.place(0, 300, 1, 100);
        x.run(9);
        due(18, "improve(-1)", x.improve(-1), NONE);
        due(18, "improve(min)", x.improve(Integer.MIN_VALUE), NONE);
        due(18, "improve(max) of the best", x.improve(Integer.MAX_VALUE), 0);
        x.walk(0, 2, 3);
        x.walk(1, 2, 1);
        due(18, "improve(0)", x.improve(0), 0);
        due(18, "improve(1), by districts", x.improve(1), 1);
        due(18, "of(0)", x.of(0), 2);
        due(18, "of(1)", x.of(1), 0);
        due(18, "sum()", x.sum(), 70);
        due(18, "improve(max)", x.improve(Integer.MAX_VALUE), 2);
        due(18, "of(0), room having come free", x.of(0), 0);
        due(18, "of(1)", x.of(1), 2);
        due(18, "sum()", x.sum(), 30);
        due(18, "chosen(1)", x.chosen(1), false);
        due(18, "proved() stays", x.proved(), false);
        improveByPlaces();
        improveWhatIsNoPlan();
        improveWithinLimits();
    }

    private static void improveByPlaces() {
        SiteChoice x = new SiteChoice();
        x.district(1);
        for (int p = 0; p < 4; p++) {
            x.place(p, 0, 0, 1);
            x.walk(0, p, 10 - p);
        }
        x.bar(3);
        x.fair(0, 9);
        x.run(9);
        due(18, "of(0)", x.of(0), 2);
        x.walk(0, 2, 9);
        x.walk(0, 1, 8);
        x.walk(0, 0, 7);
        due(18, "improve(1), the first of the places", x.improve(1), 1);
        due(18, "of(0)", x.of(0), 0);
        due(18, "improve(9), the barred one aside", x.improve(9), 0);
    }

    private static void improveWithinLimits() {
        SiteChoice x = pair();
        x.run(9);
        x.place(0, 3, 9, 100);
        x.walk(0, 2, 0);
        x.budget(13);
        due(18, "improve(9) above the budget", x.improve(9), 0);
        x.budget(14);
        x.noise(2, 4);
        due(18, "improve(9) too near", x.improve(9), 0);
        x.noise(2, 3);
        due(18, "improve(9)", x.improve(9), 1);
        due(18, "of(0)", x.of(0), 2);
        x.place(900, 0, 0, 19);
        x.walk(1, 3, 0);
        due(18, "improve(9) with too little room", x.improve(9), 0);
        x.place(0, 900, 0, 20);
        x.walk(1, 4, 1);
        x.fair(1, 0);
        due(18, "improve(9) farther than the most", x.improve(9), 0);
        x.fair(1, 1);
        due(18, "improve(9)", x.improve(9), 1);
        due(18, "of(1)", x.of(1), 4);
    }

    private static void improveWhatIsNoPlan() {
        SiteChoice x = pair();
        x.place(0, 300, 1, 100);
        x.walk(0, 2, 3);
        x.walk(1, 2, 5);
        x.run(9);
        due(18, "of(0)", x.of(0), 2);
        x.bar(2);
        x.walk(0, 2, 9);
        due(18, "improve(9) away from a barred place", x.improve(9), 1);
        due(18, "of(0)", x.of(0), 1);
        due(18, "sum()", x.sum(), 80);
        x.walk(0, 1, 9);
        x.walk(1, 0, 9);
        x.district(1);
        due(18, "improve(9) with an unserved district", x.improve(9), 0);
        due(18, "sum() by walks now", x.sum(), 270);
    }

    private static void years() {
        SiteChoice x = new SiteChoice();
        x.district(19);
        x.district(100);
        x.place(0, 0, 1000, 119);
        x.place(9, 0, 500, 1000);
        x.walk(0, 0, 1);
        x.walk(1, 0, 1);
        x.walk(0, 1, 20);
        x.walk(1, 1, 4);
        due(19, "years(0)", x.years(0), NONE);
        due(19, "years(7)", x.years(7), NONE);
        due(19, "years(min)", x.years(Integer.MIN_VALUE), NONE);
        due(19, "years(max)", x.years(Integer.MAX_VALUE), NONE);
        due(20, "open(0, 0) after refused ones", x.open(0, 0), NONE);
        due(19, "years(1)", x.years(1), 1119);
        due(19, "years(2), with the needs grown", x.years(2), 1119 + 500 + 20 + 440);
        due(20, "open(0, 0)", x.open(0, 0), 1);
        due(20, "open(1, 0)", x.open(1, 0), 0);
        due(20, "open(0, 1)", x.open(0, 1), 1);
        due(20, "open(1, 1)", x.open(1, 1), 1);
        due(20, "open(0, 2)", x.open(0, 2), NONE);
        due(20, "open(0, -1)", x.open(0, -1), NONE);
        due(20, "open(2, 0)", x.open(2, 0), NONE);
        due(20, "open(-1, 0)", x.open(-1, 0), NONE);
        x.place(0, 50, 0, 0);
        due(20, "open(2, 0) of a later place", x.open(2, 0), 0);
        x.budget(1499);
        due(19, "years(2) within the budget", x.years(2), 500 + 380 + 400 + 400 + 440);
        due(20, "open(0, 0)", x.open(0, 0), 0);
        due(20, "open(1, 0)", x.open(1, 0), 1);
        due(20, "open(2, 1), the lesser set", x.open(2, 1), 0);
        x.budget(499);
        due(19, "years(2) with no way", x.years(2), NONE);
        due(19, "years(0)", x.years(0), NONE);
        due(20, "open(1, 1) is left", x.open(1, 1), 1);
        due(20, "open(1, 2)", x.open(1, 2), NONE);
    }

    private static void yearsKept() {
        SiteChoice x = new SiteChoice();
        x.district(10);
        x.place(0, 0, 10, 10);
        x.place(9, 0, 11, 100);
        x.walk(0, 0, 0);
        x.walk(0, 1, 0);
        due(19, "years(1)", x.years(1), 10);
        due(20, "open(0, 0)", x.open(0, 0), 1);
        due(19, "years(6), a set kept open", x.years(6), 11);
        due(20, "open(0, 0)", x.open(0, 0), 0);
        due(20, "open(1, 5)", x.open(1, 5), 1);
        x.walk(0, 1, 1);
        due(19, "years(2), two ways with the least", x.years(2), 11 + 10 + 11);
        due(20, "open(0, 0), the lesser set first", x.open(0, 0), 1);
        due(20, "open(0, 1), the lesser set then", x.open(0, 1), 0);
        due(20, "open(1, 1)", x.open(1, 1), 1);
        x.walk(0, 1, 2);
        due(19, "years(2), one closed for the other", x.years(2), 10 + 11 + 22);
        due(20, "open(0, 0)", x.open(0, 0), 1);
        due(20, "open(1, 0)", x.open(1, 0), 0);
        due(19, "sum() is none of years'", x.sum(), NONE);
        x.bar(1);
        due(19, "years(1) with a barred place", x.years(1), 10);
        due(19, "years(2) with a barred place", x.years(2), NONE);
    }

    private static void yearsWithNoise() {
        SiteChoice x = new SiteChoice();
        x.district(1);
        x.district(1);
        x.place(0, 0, 1, 9);
        x.place(3, 4, 1, 9);
        x.walk(0, 0, 0);
        x.walk(1, 1, 0);
        x.walk(1, 0, 7);
        x.noise(1, 5);
        due(19, "years(3) with both open", x.years(3), 2);
        x.noise(1, 6);
        due(19, "years(3), too near to be open both", x.years(3), 1 + 21);
        due(20, "open(1, 2)", x.open(1, 2), 0);
    }

    /** Two places too near for one another, of which the better one changes twice as rooms fill. */
    private static SiteChoice turns() {
        SiteChoice x = new SiteChoice();
        x.district(10);
        x.district(20);
        x.place(0, 0, 10, 30);
        x.place(3, 4, 10, 33);
        x.place(900, 900, 0, 1000);
        for (int d = 0; d < 2; d++) {
            x.walk(d, 0, 1);
            x.walk(d, 1, 2);
            x.walk(d, 2, 100);
        }
        return x;
    }

    private static void yearsReopened() {
        SiteChoice x = turns();
        due(19, "years(3) with both open", x.years(3), 20 + 30 + 44 + 48);
        x.noise(0, 6);
        due(19, "years(3), one opened again for its cost", x.years(3), 30 + 30 + 66 + 1224);
        checkTurns(x);
        x.noise(0, 0);
        x.budget(19);
        due(19, "years(3), both above the budget", x.years(3), 30 + 30 + 66 + 1224);
        checkTurns(x);
    }

    private static void checkTurns(SiteChoice x) {
        for (int year = 0; year < 3; year++) {
            due(20, "open(0, " + year + ")", x.open(0, year), year == 1 ? 0 : 1);
            due(20, "open(1, " + year + ")", x.open(1, year), year == 1 ? 1 : 0);
            due(20, "open(2, " + year + "), only when given", x.open(2, year), year == 2 ? 1 : 0);
        }
    }

    private static void yearsWithoutNeeds() {
        SiteChoice x = new SiteChoice();
        x.place(0, 0, 0, 0);
        x.district(0);
        due(19, "years(6) without needs", x.years(6), 0);
        due(20, "open(0, 0), the lesser set", x.open(0, 0), 0);
        due(20, "open(0, 5)", x.open(0, 5), 0);
        due(20, "open(0, 6)", x.open(0, 6), NONE);
    }

    public static void main(String[] args) {
        newObject();
        district();
        place();
        walk();
        bar();
        noise();
        budget();
        fair();
        ways();
        run();
        chosenAndOf();
        sum();
        bound();
        proved();
        clash();
        clashOrder();
        gain();
        improve();
        years();
        yearsKept();
        yearsWithNoise();
        yearsReopened();
        yearsWithoutNeeds();
        System.out.println(wrong == 0 ? "all answers are as due" : wrong + " answers are not as due");
        if (wrong != 0) {
            System.exit(1);
        }
    }
}

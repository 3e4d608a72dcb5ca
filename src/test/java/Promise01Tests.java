/** Promise 1, a new object: "No districts, no places, nothing found." */
public final class Promise01Tests extends Trial {
    static void promise01NoneIsMinusOne() {
        due("NONE", SiteChoice.NONE, -1);
    }

    /** "No districts" */
    static void promise01HasNoDistricts() {
        SiteChoice x = new SiteChoice();
        x.place(0, 0, 0, 0);
        due("fair(0, 0)", x.fair(0, 0), false);
        due("walk(0, 0, 0)", x.walk(0, 0, 0), false);
        due("of(0)", x.of(0), NONE);
        due("ways()", x.ways(), 1);
        due("bound()", x.bound(), 0);
        due("district(0)", x.district(0), 0);
    }

    /** "no places" */
    static void promise01HasNoPlaces() {
        SiteChoice x = new SiteChoice();
        x.district(1);
        due("bar(0)", x.bar(0), false);
        due("noise(0, 0)", x.noise(0, 0), false);
        due("walk(0, 0, 0)", x.walk(0, 0, 0), false);
        due("chosen(0)", x.chosen(0), false);
        due("gain(0)", x.gain(0), NONE);
        due("open(0, 0)", x.open(0, 0), NONE);
        due("ways()", x.ways(), 0);
        due("place(0, 0, 0, 0)", x.place(0, 0, 0, 0), 0);
    }

    /** "nothing found" */
    static void promise01HasNothingFound() {
        SiteChoice x = Towns.pair();
        due("sum()", x.sum(), NONE);
        due("of(0)", x.of(0), NONE);
        due("chosen(0)", x.chosen(0), false);
        due("proved()", x.proved(), false);
        due("clash(0)", x.clash(0), NONE);
        due("improve(0)", x.improve(0), NONE);
        due("open(0, 0)", x.open(0, 0), NONE);
    }

    /** Nothing is found by an empty town either, until it is asked. */
    static void promise01HasNothingFoundWhenEmpty() {
        SiteChoice x = new SiteChoice();
        due("sum()", x.sum(), NONE);
        due("proved()", x.proved(), false);
        due("improve(0)", x.improve(0), NONE);
        due("clash(0)", x.clash(0), NONE);
    }

    /** "a NOISE in metres (0 at first)": two at one spot may be open. */
    static void promise01NoiseIs0AtFirst() {
        SiteChoice x = Towns.needs(1, 1);
        x.place(0, 0, 0, 1);
        x.place(0, 0, 0, 1);
        Towns.walks(x, 0, 1, 1);
        Towns.walks(x, 1, 1, 1);
        due("run(4)", x.run(4), 0);
    }

    /** "a BUDGET (10000000 at first)": five places of the greatest cost may be open. */
    static void promise01BudgetIsTheGreatestAtFirst() {
        SiteChoice x = Towns.needs(1, 1, 1, 1, 1);
        for (int p = 0; p < 5; p++) {
            x.place(0, 0, 1000000, 1);
            x.walk(p, p, 0);
        }
        due("run(1)", x.run(1), 0);
        due("plan", Towns.plan(x, 5), "0 1 2 3 4: 0");
    }

    /** "for each district a MOST (10000 at first)": it can go the longest walk. */
    static void promise01MostIsTheGreatestAtFirst() {
        SiteChoice x = Towns.single(1, 0, 1, 10000);
        due("ways()", x.ways(), 1);
        due("run(1)", x.run(1), 0);
    }

    static void promise01SharesNothingWithAnother() {
        SiteChoice full = Towns.full();
        SiteChoice x = new SiteChoice();
        due("ways() of the new one", x.ways(), 1);
        due("district(1) of the new one", x.district(1), 0);
        due("place(..) of the new one", x.place(0, 0, 0, 0), 0);
        due("sum() of the new one", x.sum(), NONE);
        due("open(0, 0) of the new one", x.open(0, 0), NONE);
        due("all of the other", Towns.askAll(full), Towns.askAll(Towns.full()));
    }

    /** "An object is used for at most 512 calls": the last of them answers as the first ones do. */
    static void promise01AnswersFor512Calls() {
        SiteChoice x = Towns.pair();
        int calls = 8;
        while (calls < 511) {
            x.walk(0, 0, calls % 2);
            calls++;
        }
        due("run(4), the 512th call", x.run(4), 0);
    }

    public static void main(String[] args) {
        runAll(Promise01Tests.class);
    }
}

/**
 * Promise 9, ways: "the product (budget, rooms and noises aside), over all districts with a need above 0, of
 * how many places that aren't barred each can go to (1, if there is no such district)."
 */
public final class Promise09Tests extends Trial {
    /** "(1, if there is no such district)" */
    static void promise09NoDistrictIsOneWay() {
        due("ways() of a new object", new SiteChoice().ways(), 1);
        due("ways() with needs of 0 alone", Towns.needs(0, 0, 0, 0, 0, 0).ways(), 1);
        due("ways() with a need of 0 that can go somewhere", Towns.single(0, 0, 0, 0).ways(), 1);
    }

    /** "over all districts with a need above 0" */
    static void promise09NeedAbove0() {
        due("ways() with a need of 1 and no place", Towns.needs(1).ways(), 0);
        SiteChoice x = Towns.pair();
        x.district(0);
        Towns.walks(x, 2, 1, 1);
        due("ways() with a need of 0 beside", x.ways(), 4);
        x.district(1);
        Towns.walks(x, 3, 1, 1);
        due("ways() with a need of 1 beside", x.ways(), 8);
    }

    /** One that can go nowhere makes it 0, wherever it stands. */
    static void promise09OneThatCanGoNowhere() {
        for (int lost = 0; lost < 3; lost++) {
            SiteChoice x = Towns.needs(1, 1, 1);
            x.place(0, 0, 0, 9);
            x.place(0, 0, 0, 9);
            for (int d = 0; d < 3; d++) {
                if (d != lost) {
                    Towns.walks(x, d, 1, 1);
                }
            }
            due("ways() without walks of " + lost, x.ways(), 0);
        }
    }

    /** The most there can be: five places for each of six. */
    static void promise09MostThereCanBe() {
        due("ways()", Towns.full().ways(), 15625);
    }

    /** "places that aren't barred" */
    static void promise09BarredAside() {
        SiteChoice x = Towns.full();
        for (int barred = 1; barred <= 5; barred++) {
            x.bar(5 - barred);
            long left = 5 - barred;
            due("ways() with " + barred + " barred", x.ways(), left * left * left * left * left * left);
        }
    }

    /** "each can go to": a walk was told and is at most the most. */
    static void promise09EachCanGoTo() {
        SiteChoice x = Towns.pair();
        x.place(0, 0, 0, 0);
        due("ways() with a place without walks", x.ways(), 4);
        x.walk(0, 2, 10000);
        due("ways() with a walk more", x.ways(), 6);
        x.fair(0, 9999);
        due("ways() with a walk above the most", x.ways(), 4);
        x.fair(0, 4);
        due("ways() with a walk at the most", x.ways(), 4);
        x.fair(0, 3);
        due("ways()", x.ways(), 2);
    }

    /** "(budget, rooms and noises aside)" */
    static void promise09BudgetRoomsAndNoisesAside() {
        SiteChoice x = Towns.needs(100, 100);
        for (int p = 0; p < 3; p++) {
            x.place(0, 0, 1000000, 0);
            x.noise(p, 3000);
            x.walk(0, p, 0);
            x.walk(1, p, 0);
        }
        x.budget(0);
        due("ways()", x.ways(), 9);
        due("run(9)", x.run(9), 2);
    }

    static void promise09AskingChangesNothing() {
        changesNothing("ways()", x -> x.ways() >= 0);
    }

    public static void main(String[] args) {
        runAll(Promise09Tests.class);
    }
}

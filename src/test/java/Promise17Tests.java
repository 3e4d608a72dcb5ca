/**
 * Promise 17, gain: "By how much the best plan's sum would be less, as things are, if a place had room for all
 * and its cost were 0 (0, if that changes nothing, as with a barred one); NONE when there is none such, or no
 * plan without that."
 */
public final class Promise17Tests extends Trial {
    /** "if a place had room for all" */
    static void promise17RoomForAll() {
        SiteChoice x = Towns.pair();
        due("gain(0)", x.gain(0), 30);
    }

    /** For all the greatest needs that there can be, from the least room. */
    static void promise17RoomForTheGreatestNeeds() {
        SiteChoice x = Towns.needs(100, 100, 100, 100, 100, 100);
        x.place(0, 0, 0, 0);
        x.place(0, 0, 0, 600);
        for (int d = 0; d < 6; d++) {
            Towns.walks(x, d, 0, 10000);
        }
        due("gain(0)", x.gain(0), 6000000);
        due("gain(1)", x.gain(1), 0);
    }

    /** "and its cost were 0" */
    static void promise17CostOf0() {
        SiteChoice x = Towns.needs(10);
        x.place(0, 0, 0, 10);
        x.place(0, 0, 1000000, 10);
        Towns.walks(x, 0, 5, 2);
        x.budget(999999);
        due("gain(1)", x.gain(1), 30);
        x.budget(0);
        due("gain(1) with a budget of 0", x.gain(1), 30);
        x.budget(1000000);
        due("gain(1) with its cost in the budget", x.gain(1), 0);
    }

    /** A cost of 0 leaves more for another place. */
    static void promise17CostOf0LeavesMoreForAnother() {
        SiteChoice x = Towns.needs(10, 10);
        x.place(0, 0, 6, 20);
        x.place(0, 0, 6, 20);
        Towns.walks(x, 0, 1, 9);
        Towns.walks(x, 1, 9, 1);
        x.budget(11);
        due("gain(0)", x.gain(0), 80);
        x.budget(5);
        due("gain(0) without a plan", x.gain(0), NONE);
        x.budget(6);
        due("gain(1)", x.gain(1), 80);
    }

    /** "(0, if that changes nothing ..)" */
    static void promise17ChangesNothing() {
        due("gain(1) of a place with enough", Towns.pair().gain(1), 0);
        due("gain(0) without needs", Towns.single(0, 9, 0, 0).gain(0), 0);
        SiteChoice x = Towns.pair();
        x.place(0, 0, 0, 0);
        due("gain(2) to which nobody can go", x.gain(2), 0);
    }

    /** "as with a barred one" */
    static void promise17BarredOne() {
        SiteChoice x = Towns.pair();
        x.place(0, 0, 1000000, 0);
        Towns.walks(x, 0, 1, 4, 0);
        Towns.walks(x, 1, 2, 6, 0);
        due("gain(2)", x.gain(2), 80);
        x.bar(2);
        due("gain(2) of a barred one", x.gain(2), 0);
        x.budget(0);
        due("gain(2) of a barred one without a plan", x.gain(2), NONE);
    }

    /** Noise stays as it is. */
    static void promise17NoiseStays() {
        SiteChoice x = Towns.pair();
        x.place(100, 1, 0, 0);
        x.walk(0, 2, 0);
        x.noise(1, 2);
        due("gain(2) beside place 0", x.gain(2), 40);
        x.noise(2, 101);
        due("gain(2) too near to place 0", x.gain(2), 0);
    }

    /** The most stays as it is: what a district can't go to it can't go to then. */
    static void promise17MostStays() {
        SiteChoice x = Towns.pair();
        x.fair(0, 0);
        due("gain(0) above the most", x.gain(0), NONE);
        x.fair(0, 1);
        due("gain(0) at the most", x.gain(0), 130 - 50);
        x.fair(0, 4);
        due("gain(0)", x.gain(0), 80 - 50);
    }

    /** "NONE when there is none such" */
    static void promise17PlaceMustBeThere() {
        SiteChoice x = Towns.pair();
        for (int p : new int[] {-1, 2, 5, Integer.MIN_VALUE, Integer.MAX_VALUE}) {
            due("gain(" + p + ")", x.gain(p), NONE);
        }
        SiteChoice full = Towns.full();
        for (int p : new int[] {-1, 5, Integer.MIN_VALUE, Integer.MAX_VALUE}) {
            due("gain(" + p + ") when full", full.gain(p), NONE);
        }
        due("gain(0) without places", new SiteChoice().gain(0), NONE);
    }

    static void promise17WrongPlaceChangesNothing() {
        for (int p : new int[] {-1, 5, Integer.MIN_VALUE, Integer.MAX_VALUE}) {
            changesNothing("gain(" + p + ")", x -> x.gain(p) == NONE);
        }
    }

    /** "or no plan without that", though with that there would be one. */
    static void promise17NoPlanWithout() {
        SiteChoice x = Towns.single(10, 5, 9, 1);
        due("gain(0) without room", x.gain(0), NONE);
        SiteChoice dear = Towns.single(10, 5, 10, 1);
        dear.budget(4);
        due("gain(0) above the budget", dear.gain(0), NONE);
        dear.budget(5);
        due("gain(0) at the budget", dear.gain(0), 0);
    }

    /** "would be": nothing is changed by asking, in no town. */
    static void promise17AskingChangesNothing() {
        for (int p = 0; p < 5; p++) {
            int place = p;
            changesNothing("gain(" + p + ")", x -> x.gain(place) >= NONE);
        }
    }

    /** "as things are": not as they were at a run(). */
    static void promise17AsThingsAre() {
        SiteChoice x = Towns.pair();
        x.run(4);
        x.walk(0, 0, 0);
        due("gain(0)", x.gain(0), 40);
        due("sum()", x.sum(), 80);
    }

    /** The costs of the others count still: at the budget, not above. */
    static void promise17CostsOfTheOthersCount() {
        SiteChoice x = Towns.needs(10, 10);
        x.place(0, 0, 1, 10);
        x.place(0, 0, 6, 10);
        x.place(0, 0, 0, 20);
        Towns.walks(x, 0, 1, 100, 9);
        Towns.walks(x, 1, 100, 1, 9);
        x.budget(5);
        due("gain(0) with the other above the budget", x.gain(0), 0);
        x.budget(6);
        due("gain(0) with the other at the budget", x.gain(0), 80);
    }

    /** A run() that found no plan leaves nothing behind: the sums are those of best plans. */
    static void promise17AfterNoPlan() {
        SiteChoice x = Towns.stuck();
        x.budget(12);
        due("gain(0)", x.gain(0), 30);
    }

    public static void main(String[] args) {
        runAll(Promise17Tests.class);
    }
}

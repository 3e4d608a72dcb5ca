/** Promise 6, noise: "A place's noise becomes another one (0 .. 3000). Answers true, or false." */
public final class Promise06Tests extends Trial {
    /** Two districts that need a place each, at a distance of 500 (by 300 and 400). */
    private static SiteChoice apart() {
        SiteChoice x = Towns.needs(1, 1);
        x.place(0, 0, 0, 1);
        x.place(300, -400, 0, 1);
        x.walk(0, 0, 0);
        x.walk(1, 1, 0);
        return x;
    }

    /** "(0 .. 3000)" */
    static void promise06MetresAre0To3000() {
        takesJust("noise", 0, 3000, metres -> Towns.pair().noise(1, metres));
    }

    /** "a call that names a .. place that there is not" */
    static void promise06PlaceMustBeThere() {
        takesJustInts("noise", 0, 1, p -> Towns.pair().noise((int) p, 1));
        takesJustInts("noise when full", 0, 4, p -> Towns.full().noise((int) p, 1));
        due("noise(0, 0) without places", new SiteChoice().noise(0, 0), false);
    }

    static void promise06RefusedOneChangesNothing() {
        for (int p : new int[] {-1, 5, Integer.MIN_VALUE, Integer.MAX_VALUE}) {
            changesNothing("noise(" + p + ", 3000)", x -> !x.noise(p, 3000));
        }
        for (long metres : new long[] {-1, 3001, Long.MIN_VALUE, Long.MAX_VALUE}) {
            changesNothing("noise(0, " + metres + ")", x -> !x.noise(0, metres));
            changesNothing("noise(1, " + metres + ")", x -> !x.noise(1, metres));
        }
    }

    static void promise06RefusedOneIsNotKeptForLater() {
        SiteChoice x = Towns.needs(1, 1);
        x.place(0, 0, 0, 1);
        due("noise(1, 3000)", x.noise(1, 3000), false);
        x.place(300, -400, 0, 1);
        x.walk(0, 0, 0);
        x.walk(1, 1, 0);
        due("run(1)", x.run(1), 0);
    }

    /** "less than the square": at the distance itself both may be open. */
    static void promise06NoiseAtTheDistance() {
        SiteChoice x = apart();
        x.noise(0, 499);
        due("run(1) at 499", x.run(1), 0);
        x.noise(0, 500);
        due("run(1) at 500", x.run(1), 0);
        x.noise(0, 501);
        due("run(1) at 501", x.run(1), 2);
    }

    /** "the greater one of their noises", whichever of the two has it. */
    static void promise06GreaterNoiseCounts() {
        for (int louder = 0; louder < 2; louder++) {
            SiteChoice x = apart();
            x.noise(louder, 501);
            x.noise(1 - louder, 1);
            due("run(1) with 501 at " + louder, x.run(1), 2);
            x.noise(louder, 500);
            x.noise(1 - louder, 500);
            due("run(1) with 500 at both", x.run(1), 0);
        }
    }

    /** The greatest noise is above every distance, the least below none. */
    static void promise06NoiseAtBothEnds() {
        SiteChoice x = Towns.needs(1, 1);
        x.place(-1000, -1000, 0, 1);
        x.place(1000, 1000, 0, 1);
        x.walk(0, 0, 0);
        x.walk(1, 1, 0);
        x.noise(1, 3000);
        due("run(1) with 3000", x.run(1), 2);
        due("noise(1, 0)", x.noise(1, 0), true);
        due("run(1) with 0", x.run(1), 0);
    }

    /** At one spot the least noise that is one bars the two, and none does not. */
    static void promise06NoiseAtOneSpot() {
        SiteChoice x = Towns.needs(1, 1);
        x.place(5, 5, 0, 1);
        x.place(5, 5, 0, 1);
        x.walk(0, 0, 0);
        x.walk(1, 1, 0);
        due("run(1) with 0", x.run(1), 0);
        x.noise(0, 1);
        due("run(1) with 1", x.run(1), 2);
    }

    /** "no two of them": one place alone is never too near, whatever its noise. */
    static void promise06NoiseOfOneAlone() {
        SiteChoice x = Towns.single(1, 0, 1, 0);
        x.noise(0, 3000);
        due("run(1)", x.run(1), 0);
    }

    /** Only places that are given count: a loud one beside them does not. */
    static void promise06NoiseOfOneNotGiven() {
        SiteChoice x = apart();
        x.place(1, 1, 0, 1000);
        x.noise(2, 3000);
        Towns.walks(x, 0, 0, 5, 1);
        Towns.walks(x, 1, 5, 0, 1);
        due("run(9)", x.run(9), 0);
        due("plan", Towns.plan(x, 2), "0 1: 0");
    }

    /** Of three each two are looked at. */
    static void promise06EachTwoOfThree() {
        for (int louder = 0; louder < 3; louder++) {
            SiteChoice x = Towns.needs(1, 1, 1);
            x.place(0, 0, 0, 1);
            x.place(600, 0, 0, 1);
            x.place(1000, 0, 0, 1);
            for (int d = 0; d < 3; d++) {
                x.walk(d, d, 0);
            }
            long nearest = louder == 0 ? 600 : 400;
            x.noise(louder, nearest);
            due("run(1) with " + nearest + " at " + louder, x.run(1), 0);
            x.noise(louder, nearest + 1);
            due("run(1) with one more at " + louder, x.run(1), 2);
        }
    }

    /** The noise it has already is told as others are: only bar() names that case. */
    static void promise06SameNoiseIsTold() {
        SiteChoice x = Towns.held();
        due("noise(0, 100) as it was", x.noise(0, 100), true);
        due("proved()", x.proved(), false);
    }

    public static void main(String[] args) {
        runAll(Promise06Tests.class);
    }
}

/** Promise 2, district: "NONE when there are 6, or the need is not 0 .. 100." */
public final class Promise02Tests extends Trial {
    /** "the need is not 0 .. 100" */
    static void promise02NeedIs0To100() {
        takesJust("district", 0, 100, need -> {
            int number = new SiteChoice().district(need);
            due("its number", number == 0 || number == NONE, true);
            return number == 0;
        });
    }

    /** "DISTRICTS, numbered from 0 on, 6 at most" */
    static void promise02NumbersAre0To5() {
        SiteChoice x = new SiteChoice();
        for (int d = 0; d < 6; d++) {
            due("district(1)", x.district(1), d);
        }
        due("seventh", x.district(1), NONE);
        due("eighth", x.district(1), NONE);
    }

    /** "NONE when there are 6", also with a need at an end. */
    static void promise02SeventhIsRefusedWithEveryNeed() {
        for (long need : new long[] {0, 100, -1, 101, Long.MIN_VALUE, Long.MAX_VALUE}) {
            changesNothing("district(" + need + ") when full", Towns::full, x -> x.district(need) == NONE);
        }
    }

    /** A district with the need 0 is one of the 6. */
    static void promise02NeedOf0IsCounted() {
        SiteChoice x = Towns.needs(0, 0, 0, 0, 0);
        due("sixth", x.district(0), 5);
        due("seventh", x.district(0), NONE);
    }

    /** "a number that is not such, is refused, and changes nothing" */
    static void promise02RefusedOneChangesNothing() {
        for (long need : new long[] {-1, 101, Long.MIN_VALUE, Long.MAX_VALUE}) {
            changesNothing("district(" + need + ")", x -> x.district(need) == NONE);
        }
    }

    static void promise02RefusedOneTakesNoNumber() {
        SiteChoice x = new SiteChoice();
        due("district(101)", x.district(101), NONE);
        due("fair(0, 0)", x.fair(0, 0), false);
        due("district(100)", x.district(100), 0);
        due("district(-1)", x.district(-1), NONE);
        due("district(0)", x.district(0), 1);
    }

    /** The ends are needs as others are: 0 is none, 1 is one, 100 are all taken. */
    static void promise02NeedAtBothEndsIsTheNeed() {
        for (long need : new long[] {0, 1, 99, 100}) {
            SiteChoice x = Towns.single(need, 0, 1000, 10);
            due("bound() of need " + need, x.bound(), need * 10);
            x.run(1);
            due("of(0) of need " + need, x.of(0), need == 0 ? NONE : 0);
            due("sum() of need " + need, x.sum(), need * 10);
        }
    }

    /** "One more district": it can go nowhere yet, and those there are as they were. */
    static void promise02OneMoreLeavesTheOthers() {
        SiteChoice x = Towns.pair();
        due("district(0)", x.district(0), 2);
        due("ways()", x.ways(), 4);
        due("bound()", x.bound(), 50);
        due("district(1)", x.district(1), 3);
        due("ways() with one that can go nowhere", x.ways(), 0);
        due("walk(3, 0, 9)", x.walk(3, 0, 9), true);
        due("bound()", x.bound(), 59);
    }

    public static void main(String[] args) {
        runAll(Promise02Tests.class);
    }
}

/**
 * Promise 20, open: "Whether a place is open in a year by the latest years() that was not NONE: 1 or 0; NONE
 * when there is none such place or year (a years() that answers NONE leaves it)."
 */
public final class Promise20Tests extends Trial {
    /** "1 or 0" */
    static void promise20OneOrZero() {
        SiteChoice x = Towns.held();
        due("open", Towns.opened(x, 3, 2), "110 101");
    }

    /** "NONE when there is none such place" */
    static void promise20PlaceMustBeThere() {
        SiteChoice x = Towns.held();
        takesJustInts("open by place", 0, 2, p -> x.open((int) p, 0) != NONE);
        SiteChoice full = Towns.full();
        takesJustInts("open by place when full", 0, 4, p -> full.open((int) p, 0) != NONE);
        SiteChoice none = new SiteChoice();
        none.years(1);
        due("open(0, 0) without places", none.open(0, 0), NONE);
    }

    /** "or year" */
    static void promise20YearMustBeThere() {
        SiteChoice x = Towns.held();
        takesJustInts("open by year", 0, 1, year -> x.open(0, (int) year) != NONE);
        SiteChoice full = Towns.full();
        takesJustInts("open by year of six", 0, 5, year -> full.open(0, (int) year) != NONE);
        SiteChoice one = Towns.single(1, 0, 1, 1);
        one.years(1);
        takesJustInts("open by year of one", 0, 0, year -> one.open(0, (int) year) != NONE);
    }

    static void promise20BothWrong() {
        SiteChoice x = Towns.full();
        for (int number : new int[] {-1, 6, Integer.MIN_VALUE, Integer.MAX_VALUE}) {
            due("open(" + number + ", " + number + ")", x.open(number, number), NONE);
        }
    }

    static void promise20WrongNumberChangesNothing() {
        for (int number : new int[] {-1, 6, Integer.MIN_VALUE, Integer.MAX_VALUE}) {
            changesNothing("open(" + number + ", 0)", x -> x.open(number, 0) == NONE);
            changesNothing("open(0, " + number + ")", x -> x.open(0, number) == NONE);
        }
    }

    /** Before any years() there is no such year. */
    static void promise20BeforeYears() {
        SiteChoice x = Towns.pair();
        due("open(0, 0)", x.open(0, 0), NONE);
        x.run(4);
        due("open(0, 0) after a run", x.open(0, 0), NONE);
        x.years(0);
        x.years(7);
        due("open(0, 0) after refused years", x.open(0, 0), NONE);
        due("years(2) with no way", x.years(2), NONE);
        due("open(0, 0) after no way", x.open(0, 0), NONE);
    }

    /** "the latest years()": fewer years take the stead of more, and more of fewer. */
    static void promise20LatestYears() {
        SiteChoice x = Towns.single(1, 0, 1, 1);
        x.years(6);
        due("open(0, 5)", x.open(0, 5), 1);
        x.years(2);
        due("open(0, 1) of two", x.open(0, 1), 1);
        due("open(0, 2) of two", x.open(0, 2), NONE);
        due("open(0, 5) of two", x.open(0, 5), NONE);
        x.years(3);
        due("open(0, 2) of three", x.open(0, 2), 1);
        due("open(0, 3) of three", x.open(0, 3), NONE);
    }

    /** "(a years() that answers NONE leaves it)", as n is not such. */
    static void promise20RefusedYearsLeaveIt() {
        SiteChoice x = Towns.held();
        for (int n : new int[] {0, 7, -1, Integer.MIN_VALUE, Integer.MAX_VALUE}) {
            due("years(" + n + ")", x.years(n), NONE);
        }
        due("open", Towns.opened(x, 3, 2), "110 101");
        due("open(0, 2)", x.open(0, 2), NONE);
    }

    /** The same as there is no way, in the first year or in a later one. */
    static void promise20NoWayLeavesIt() {
        SiteChoice x = Towns.held();
        due("years(6), no way later on", x.years(6), NONE);
        due("open", Towns.opened(x, 3, 2), "110 101");
        due("open(0, 2)", x.open(0, 2), NONE);
        x.budget(0);
        due("years(1), no way at once", x.years(1), NONE);
        due("open", Towns.opened(x, 3, 2), "110 101");
        due("open(0, 1)", x.open(0, 1), 1);
    }

    /** It stays whatever is told, and whatever run() and improve() find. */
    static void promise20StaysWhateverIsTold() {
        SiteChoice x = Towns.held();
        x.bar(0);
        x.bar(1);
        x.budget(0);
        x.noise(2, 3000);
        x.fair(0, 0);
        x.walk(1, 2, 10000);
        x.district(100);
        x.improve(9);
        x.run(0);
        x.run(-1);
        due("open", Towns.opened(x, 3, 2), "110 101");
    }

    /** A place made since was not open: there is such a place, so it is 0. */
    static void promise20LaterPlace() {
        SiteChoice x = Towns.held();
        due("open(3, 0) before it is made", x.open(3, 0), NONE);
        x.place(0, 0, 0, 1000);
        due("open(3, 0)", x.open(3, 0), 0);
        due("open(3, 1)", x.open(3, 1), 0);
        due("open(3, 2)", x.open(3, 2), NONE);
        due("open(4, 0)", x.open(4, 0), NONE);
    }

    static void promise20AskingChangesNothing() {
        for (int p = 0; p < 5; p++) {
            int place = p;
            changesNothing("open(" + p + ", 1)", x -> x.open(place, 1) >= NONE);
        }
    }

    public static void main(String[] args) {
        runAll(Promise20Tests.class);
    }
}

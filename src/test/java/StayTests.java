import java.util.List;
import java.util.function.Consumer;

/**
 * The "Checks" of the document: "What was found by run(), improve() and years() stays until the next of the
 * same that is not refused, whatever is told."
 */
public final class StayTests extends Trial {
    /** Everything that can be told to Towns.held() and Towns.stuck(), at the ends of its ranges. */
    private static List<Consumer<SiteChoice>> tellings() {
        return List.of(
                x -> x.district(0), x -> x.district(100),
                x -> x.place(-1000, -1000, 0, 0), x -> x.place(1000, 1000, 1000000, 1000),
                x -> x.walk(0, 0, 0), x -> x.walk(1, 0, 10000), x -> x.walk(0, 1, 10000), x -> x.walk(2, 2, 0),
                x -> x.bar(0), x -> x.bar(1),
                x -> x.noise(0, 0), x -> x.noise(1, 3000),
                x -> x.budget(0), x -> x.budget(10000000),
                x -> x.fair(0, 0), x -> x.fair(1, 0), x -> x.fair(1, 10000));
    }

    private static void tellAll(SiteChoice x) {
        for (Consumer<SiteChoice> telling : tellings()) {
            telling.accept(x);
        }
    }

    /** What run() found: of(), chosen() and sum(). */
    static void promise10FoundPlanStaysWhateverIsTold() {
        for (Consumer<SiteChoice> telling : tellings()) {
            SiteChoice x = Towns.held();
            telling.accept(x);
            dueHeld(x, "1 0 -1: 80", true, true, false);
        }
        SiteChoice x = Towns.held();
        tellAll(x);
        dueHeld(x, "1 0 -1: 80", true, true, false);
    }

    private static void dueHeld(SiteChoice x, String plan, boolean... chosen) {
        due("plan", Towns.plan(x, 3), plan);
        for (int p = 0; p < chosen.length; p++) {
            due("chosen(" + p + ")", x.chosen(p), chosen[p]);
        }
    }

    /** A plan is held until the next run(), also through gain(), bound(), ways() and years(). */
    static void promise10FoundPlanStaysWhateverIsAsked() {
        SiteChoice x = Towns.held();
        x.budget(10000000);
        Towns.ask(x);
        x.years(1);
        x.years(6);
        x.years(0);
        dueHeld(x, "1 0 -1: 80", true, true, false);
    }

    /** What run() found when there is no plan: clash(), and that nothing is held. */
    static void promise16FoundClashStaysWhateverIsTold() {
        for (Consumer<SiteChoice> telling : tellings()) {
            SiteChoice x = Towns.stuck();
            telling.accept(x);
            due("clash", Towns.clash(x), "0 1");
            due("sum()", x.sum(), NONE);
        }
        SiteChoice x = Towns.stuck();
        tellAll(x);
        due("clash", Towns.clash(x), "0 1");
        due("sum()", x.sum(), NONE);
    }

    /** What improve() found. */
    static void promise18FoundExchangesStayWhateverIsTold() {
        for (Consumer<SiteChoice> telling : tellings()) {
            SiteChoice x = Towns.held();
            x.walk(0, 2, 3);
            due("improve(9)", x.improve(9), 1);
            telling.accept(x);
            dueHeld(x, "2 0 -1: 70", true, false, true);
        }
    }

    /** What improve() found goes with the next run(), though that finds a plan with a greater sum. */
    static void promise18FoundExchangesGoWithTheNextRun() {
        SiteChoice x = Towns.held();
        x.walk(0, 2, 3);
        x.improve(9);
        x.walk(0, 2, 9);
        due("run(-1)", x.run(-1), NONE);
        due("plan", Towns.plan(x, 3), "2 0 -1: 70");
        due("run(9)", x.run(9), 0);
        due("plan", Towns.plan(x, 3), "1 0 -1: 80");
    }

    /** What years() found. */
    static void promise20FoundYearsStayWhateverIsTold() {
        for (Consumer<SiteChoice> telling : tellings()) {
            SiteChoice x = Towns.held();
            telling.accept(x);
            due("open", Towns.opened(x, 3, 2), "110 101");
            due("open(0, 2)", x.open(0, 2), NONE);
        }
    }

    /** A run(), whatever it answers, is not of the same as years(). */
    static void promise20FoundYearsStayWhateverRunFinds() {
        for (long nodes : new long[] {-1, 0, 9}) {
            SiteChoice x = Towns.held();
            x.run(nodes);
            due("open", Towns.opened(x, 3, 2), "110 101");
        }
        due("open without a plan", Towns.opened(Towns.stuck(), 3, 2), "110 101");
    }

    /** What was told counts, also when it was told before and after refused calls of the same kind. */
    static void promise15RefusedCallsBetween() {
        SiteChoice x = Towns.held();
        x.budget(-1);
        x.budget(13);
        x.budget(10000001);
        x.walk(0, 0, -1);
        x.walk(0, 0, 0);
        x.walk(0, 0, 10001);
        due("proved()", x.proved(), false);
        due("run(9)", x.run(9), 0);
        x.fair(0, -1);
        x.noise(0, -1);
        due("proved()", x.proved(), true);
    }

    public static void main(String[] args) {
        runAll(StayTests.class);
    }
}

import java.util.List;
import java.util.function.Consumer;

/**
 * Promise 15, proved: "Whether the latest run() that was not refused answered 0 and nothing that was told since
 * was not refused."
 */
public final class Promise15Tests extends Trial {
    /** Before any run(). */
    static void promise15BeforeARun() {
        due("proved() of a new object", new SiteChoice().proved(), false);
        due("proved() of a pair", Towns.pair().proved(), false);
    }

    /** "the latest run() .. answered 0" */
    static void promise15RunAnswered0() {
        SiteChoice x = Towns.pair();
        x.run(4);
        due("proved()", x.proved(), true);
        SiteChoice idle = new SiteChoice();
        idle.run(1);
        due("proved() without needs", idle.proved(), true);
    }

    static void promise15RunAnswered1() {
        SiteChoice x = Towns.held();
        due("run(8)", x.run(8), 1);
        due("proved()", x.proved(), false);
    }

    static void promise15RunAnswered2() {
        due("proved()", Towns.stuck().proved(), false);
    }

    /** "that was not refused": a refused run() leaves what the one before it answered. */
    static void promise15RefusedRun() {
        SiteChoice x = Towns.held();
        x.run(-1);
        x.run(Long.MIN_VALUE);
        due("proved() after a found plan", x.proved(), true);
        SiteChoice stuck = Towns.stuck();
        stuck.run(-1);
        due("proved() after no plan", stuck.proved(), false);
    }

    /** "nothing that was told since was not refused": each kind of telling ends it. */
    static void promise15Told() {
        List<Consumer<SiteChoice>> tellings = List.of(
                x -> due("district(0)", x.district(0), 3),
                x -> due("place(0, 0, 0, 0)", x.place(0, 0, 0, 0), 3),
                x -> due("walk(0, 0, 1)", x.walk(0, 0, 1), true),
                x -> due("bar(2)", x.bar(2), true),
                x -> due("noise(0, 100)", x.noise(0, 100), true),
                x -> due("budget(12)", x.budget(12), true),
                x -> due("fair(1, 8)", x.fair(1, 8), true));
        for (int i = 0; i < tellings.size(); i++) {
            SiteChoice x = Towns.held();
            due("proved() before telling " + i, x.proved(), true);
            tellings.get(i).accept(x);
            due("proved() after telling " + i, x.proved(), false);
            x.run(8);
            x.run(99);
            due("proved() after a run anew", x.proved(), true);
        }
    }

    /** What was told and refused leaves it. */
    static void promise15ToldAndRefused() {
        SiteChoice x = Towns.held();
        due("district(101)", x.district(101), NONE);
        due("district(-1)", x.district(-1), NONE);
        due("place(1001, ..)", x.place(1001, 0, 0, 0), NONE);
        due("place(.., -1)", x.place(0, 0, 0, -1), NONE);
        due("walk(3, 0, 1)", x.walk(3, 0, 1), false);
        due("walk(0, 3, 1)", x.walk(0, 3, 1), false);
        due("walk(0, 0, 10001)", x.walk(0, 0, 10001), false);
        due("bar(3)", x.bar(3), false);
        due("noise(0, 3001)", x.noise(0, 3001), false);
        due("noise(3, 0)", x.noise(3, 0), false);
        due("budget(-1)", x.budget(-1), false);
        due("budget(10000001)", x.budget(10000001), false);
        due("fair(3, 0)", x.fair(3, 0), false);
        due("fair(0, 10001)", x.fair(0, 10001), false);
        due("proved()", x.proved(), true);
    }

    /** A seventh district and a sixth place are refused, and leave it. */
    static void promise15ToldWhenFull() {
        SiteChoice x = Towns.full();
        due("proved()", x.proved(), true);
        due("district(0)", x.district(0), NONE);
        due("place(0, 0, 0, 0)", x.place(0, 0, 0, 0), NONE);
        due("proved()", x.proved(), true);
    }

    /** What is told back as it was is told all the same. */
    static void promise15ToldBack() {
        SiteChoice x = Towns.held();
        x.budget(13);
        x.budget(12);
        due("proved()", x.proved(), false);
    }

    /** Questions, years() and improve() tell nothing. */
    static void promise15Questions() {
        SiteChoice x = Towns.held();
        Towns.ask(x);
        x.years(2);
        x.years(0);
        x.improve(0);
        x.improve(9);
        x.improve(-1);
        due("proved()", x.proved(), true);
        x.walk(0, 0, 1);
        Towns.ask(x);
        x.years(2);
        x.improve(9);
        due("proved() once it has ended", x.proved(), false);
    }

    static void promise15AskingChangesNothing() {
        changesNothing("proved()", x -> x.proved() || !x.proved());
    }

    public static void main(String[] args) {
        runAll(Promise15Tests.class);
    }
}

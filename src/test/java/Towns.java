import java.util.List;
import java.util.function.Supplier;

/** Towns that many tests begin with, and the questions that tell two towns apart. */
final class Towns {
    private Towns() {
    }

    static List<Supplier<SiteChoice>> all() {
        return List.of(SiteChoice::new, Towns::pair, Towns::held, Towns::stuck, Towns::full);
    }

    /** Two districts (needs 10 and 20) and two places (room 20 each, cost 5 and 7), 100 apart, all walks told. */
    static SiteChoice pair() {
        SiteChoice x = new SiteChoice();
        x.district(10);
        x.district(20);
        x.place(0, 0, 5, 20);
        x.place(100, 0, 7, 20);
        x.walk(0, 0, 1);
        x.walk(0, 1, 4);
        x.walk(1, 0, 2);
        x.walk(1, 1, 6);
        return x;
    }

    /**
     * A pair with a third place and a district without a need, in which budget, rooms, noise and fair
     * walks are all just kept, with a plan and two years found.
     */
    static SiteChoice held() {
        SiteChoice x = pair();
        x.district(0);
        x.place(0, 300, 1, 24);
        x.walk(0, 2, 9);
        x.walk(1, 2, 8);
        x.walk(2, 0, 3);
        x.fair(1, 8);
        x.budget(12);
        x.noise(0, 100);
        x.years(2);
        x.run(9);
        return x;
    }

    /** The same with one cent too few and a place barred, so that districts 0 and 1 can't be served both. */
    static SiteChoice stuck() {
        SiteChoice x = held();
        x.budget(11);
        x.bar(2);
        x.run(9);
        return x;
    }

    /** Six districts, five places, all walks told, a plan and six years found, within room and budget just kept. */
    static SiteChoice full() {
        SiteChoice x = new SiteChoice();
        for (int p = 0; p < 5; p++) {
            x.place(p * 10, 0, 100 * (p + 1), p == 0 ? 20 : 40);
        }
        for (int d = 0; d < 6; d++) {
            x.district(10 + d);
            for (int p = 0; p < 5; p++) {
                x.walk(d, p, 5 + (d * 7 + p * 11) % 13);
            }
        }
        x.budget(1200);
        x.years(6);
        x.run(15625);
        return x;
    }

    /** One district and one place with a walk. */
    static SiteChoice single(long need, long cost, long room, long metres) {
        SiteChoice x = new SiteChoice();
        x.district(need);
        x.place(0, 0, cost, room);
        x.walk(0, 0, metres);
        return x;
    }

    /** Districts with a need each, and no place. */
    static SiteChoice needs(long... needs) {
        SiteChoice x = new SiteChoice();
        for (long need : needs) {
            x.district(need);
        }
        return x;
    }

    /** The walks from a district to the places from 0 on. */
    static void walks(SiteChoice x, int district, long... metres) {
        for (int p = 0; p < metres.length; p++) {
            x.walk(district, p, metres[p]);
        }
    }

    /** What the plan held gives the districts from 0 on, and its sum: "1 0 -1: 80". */
    static String plan(SiteChoice x, int districts) {
        StringBuilder text = new StringBuilder();
        for (int d = 0; d < districts; d++) {
            text.append(d == 0 ? "" : " ").append(x.of(d));
        }
        return text.append(": ").append(x.sum()).toString();
    }

    /** The districts that clash, as "0 1", up to the first NONE. */
    static String clash(SiteChoice x) {
        StringBuilder text = new StringBuilder();
        for (int k = 0; k < 7 && x.clash(k) != -1; k++) {
            text.append(k == 0 ? "" : " ").append(x.clash(k));
        }
        return text.toString();
    }

    /** For each year the places from 0 on, 1 when open: "110 011". */
    static String opened(SiteChoice x, int places, int years) {
        StringBuilder text = new StringBuilder();
        for (int year = 0; year < years; year++) {
            text.append(year == 0 ? "" : " ");
            for (int p = 0; p < places; p++) {
                text.append(x.open(p, year));
            }
        }
        return text.toString();
    }

    /** All that a town answers without being changed. */
    static String ask(SiteChoice x) {
        StringBuilder text = new StringBuilder();
        text.append("ways ").append(x.ways()).append(" bound ").append(x.bound());
        text.append(" proved ").append(x.proved()).append(" plan ").append(plan(x, 6));
        text.append(" clash ").append(clash(x)).append(" open ").append(opened(x, 5, 6));
        for (int p = 0; p < 5; p++) {
            text.append(" place ").append(x.chosen(p)).append(' ').append(x.gain(p));
        }
        return text.toString();
    }

    /** What it answers, also to calls after which it is another; below 512 calls with those that made it. */
    static String askAll(SiteChoice x) {
        StringBuilder text = new StringBuilder(ask(x));
        text.append(" improve ").append(x.improve(0)).append(' ').append(plan(x, 6));
        text.append(' ').append(x.improve(9)).append(' ').append(plan(x, 6));
        text.append(" run ").append(x.run(Long.MAX_VALUE)).append(' ').append(plan(x, 6)).append(' ').append(clash(x));
        text.append(" years ").append(x.years(6)).append(' ').append(opened(x, 5, 6));
        text.append(" years ").append(x.years(2)).append(' ').append(opened(x, 5, 3));
        int place = x.place(1000, 1000, 2, 15);
        text.append(" place ").append(place).append(" district ").append(x.district(3));
        for (int d = 0; d < 6; d++) {
            text.append(' ').append(x.walk(d, Math.max(place, 0), 7));
        }
        text.append(" budget ").append(x.budget(10000000)).append(" run ").append(x.run(Long.MAX_VALUE));
        return text.append(' ').append(plan(x, 6)).append(' ').append(clash(x)).toString();
    }
}

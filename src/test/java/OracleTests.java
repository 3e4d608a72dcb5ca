import java.util.ArrayList;
import java.util.Arrays;
import java.util.List;
import java.util.Random;

/** Compares SiteChoice with the document's words taken one by one, over many random runs of calls. */
public final class OracleTests {
    private static final int RUNS = 600;
    private static final int CALLS = 300;
    private static int wrong = 0;

    /** Slow and plain: every plan and every way is written out and looked at. */
    private static final class Plain {
        final List<long[]> places = new ArrayList<>();
        final List<Long> needs = new ArrayList<>();
        final long[][] walks = new long[6][5];
        final boolean[][] told = new boolean[6][5];
        final boolean[] barred = new boolean[5];
        final long[] noises = new long[5];
        final long[] most = new long[6];
        long budget = 10000000;
        int[] held = null;
        long heldSum;
        boolean proved;
        List<Integer> clash = new ArrayList<>();
        int[] open = null;

        Plain() {
            Arrays.fill(most, 10000);
        }

        long district(long need) {
            if (needs.size() == 6 || need < 0 || need > 100) return -1;
            needs.add(need);
            proved = false;
            return needs.size() - 1;
        }

        long place(long x, long y, long cost, long room) {
            if (places.size() == 5 || Math.abs(x) > 1000 || Math.abs(y) > 1000) return -1;
            if (cost < 0 || cost > 1000000 || room < 0 || room > 1000) return -1;
            places.add(new long[] {x, y, cost, room});
            proved = false;
            return places.size() - 1;
        }

        boolean isDistrict(int d) {
            return d >= 0 && d < needs.size();
        }

        boolean isPlace(int p) {
            return p >= 0 && p < places.size();
        }

        long walk(int d, int p, long metres) {
            if (!isDistrict(d) || !isPlace(p) || metres < 0 || metres > 10000) return 0;
            told[d][p] = true;
            walks[d][p] = metres;
            proved = false;
            return 1;
        }

        long bar(int p) {
            if (!isPlace(p) || barred[p]) return 0;
            barred[p] = true;
            proved = false;
            return 1;
        }

        long noise(int p, long metres) {
            if (!isPlace(p) || metres < 0 || metres > 3000) return 0;
            noises[p] = metres;
            proved = false;
            return 1;
        }

        long budget(long cents) {
            if (cents < 0 || cents > 10000000) return 0;
            budget = cents;
            proved = false;
            return 1;
        }

        long fair(int d, long metres) {
            if (!isDistrict(d) || metres < 0 || metres > 10000) return 0;
            most[d] = metres;
            proved = false;
            return 1;
        }

        boolean canGo(int d, int p) {
            return told[d][p] && walks[d][p] <= most[d];
        }

        boolean mayBeOpen(int set) {
            long cost = 0;
            for (int p = 0; p < places.size(); p++) {
                if ((set & 1 << p) == 0) continue;
                if (barred[p]) return false;
                cost += places.get(p)[2];
                for (int q = 0; q < p; q++) {
                    if ((set & 1 << q) == 0) continue;
                    long dx = places.get(p)[0] - places.get(q)[0];
                    long dy = places.get(p)[1] - places.get(q)[1];
                    long n = Math.max(noises[p], noises[q]);
                    if (dx * dx + dy * dy < n * n) return false;
                }
            }
            return cost <= budget;
        }

        static int setOf(int[] plan) {
            int set = 0;
            for (int p : plan) {
                if (p >= 0) set |= 1 << p;
            }
            return set;
        }

        boolean isPlan(int[] plan, List<Long> wants) {
            long[] load = new long[5];
            for (int d = 0; d < wants.size(); d++) {
                if ((wants.get(d) > 0) != (plan[d] >= 0)) return false;
                if (plan[d] < 0) continue;
                if (!canGo(d, plan[d])) return false;
                load[plan[d]] += wants.get(d);
            }
            for (int p = 0; p < places.size(); p++) {
                if (load[p] > places.get(p)[3]) return false;
            }
            return mayBeOpen(setOf(plan));
        }

        long sumOf(int[] plan, List<Long> wants) {
            long sum = 0;
            for (int d = 0; d < wants.size(); d++) {
                if (plan[d] >= 0) sum += wants.get(d) * walks[d][plan[d]];
            }
            return sum;
        }

        /** All plans in their order, or only the least of those within a set. */
        int[] best(List<Long> wants, int within) {
            int[] plan = new int[6];
            Arrays.fill(plan, -1);
            int[][] found = new int[1][];
            each(wants, within, 0, plan, found);
            return found[0];
        }

        private void each(List<Long> wants, int within, int d, int[] plan, int[][] found) {
            if (d == wants.size()) {
                if (isPlan(plan, wants)
                        && (found[0] == null || sumOf(plan, wants) < sumOf(found[0], wants))) {
                    found[0] = plan.clone();
                }
                return;
            }
            if (wants.get(d) == 0) {
                each(wants, within, d + 1, plan, found);
                return;
            }
            for (int p = 0; p < places.size(); p++) {
                if ((within & 1 << p) != 0) {
                    plan[d] = p;
                    each(wants, within, d + 1, plan, found);
                    plan[d] = -1;
                }
            }
        }

        long ways() {
            long product = 1;
            for (int d = 0; d < needs.size(); d++) {
                if (needs.get(d) == 0) continue;
                int count = 0;
                for (int p = 0; p < places.size(); p++) {
                    if (!barred[p] && canGo(d, p)) count++;
                }
                product *= count;
            }
            return product;
        }

        long bound() {
            long sum = 0;
            for (int d = 0; d < needs.size(); d++) {
                if (needs.get(d) == 0) continue;
                long least = Long.MAX_VALUE;
                for (int p = 0; p < places.size(); p++) {
                    if (!barred[p] && canGo(d, p)) least = Math.min(least, walks[d][p]);
                }
                if (least == Long.MAX_VALUE) return -1;
                sum += least * needs.get(d);
            }
            return sum;
        }

        long run(long nodes) {
            if (nodes < 0) return -1;
            held = null;
            proved = false;
            clash.clear();
            if (ways() > nodes) return 1;
            held = best(needs, 31);
            if (held == null) {
                clash = leastClash();
                return 2;
            }
            heldSum = sumOf(held, needs);
            proved = true;
            return 0;
        }

        List<Integer> leastClash() {
            List<Integer> least = null;
            for (int set = 1; set < 1 << needs.size(); set++) {
                List<Integer> members = new ArrayList<>();
                List<Long> wants = new ArrayList<>();
                for (int d = 0; d < needs.size(); d++) {
                    boolean in = (set & 1 << d) != 0;
                    if (in) members.add(d);
                    wants.add(in ? needs.get(d) : 0L);
                }
                if ((least == null || isBefore(members, least)) && best(wants, 31) == null) least = members;
            }
            return least;
        }

        static boolean isBefore(List<Integer> one, List<Integer> other) {
            if (one.size() != other.size()) return one.size() < other.size();
            for (int i = 0; i < one.size(); i++) {
                if (!one.get(i).equals(other.get(i))) return one.get(i) < other.get(i);
            }
            return false;
        }

        long chosen(int p) {
            return held != null && isPlace(p) && (setOf(held) & 1 << p) != 0 ? 1 : 0;
        }

        long of(int d) {
            return held != null && isDistrict(d) ? held[d] : -1;
        }

        long sum() {
            return held == null ? -1 : heldSum;
        }

        long clash(int k) {
            return k >= 0 && k < clash.size() ? clash.get(k) : -1;
        }

        long gain(int p) {
            if (!isPlace(p)) return -1;
            int[] before = best(needs, 31);
            if (before == null) return -1;
            long[] was = places.get(p);
            places.set(p, new long[] {was[0], was[1], 0, 1000000});
            int[] after = best(needs, 31);
            places.set(p, was);
            return sumOf(before, needs) - sumOf(after, needs);
        }

        long improve(int steps) {
            if (held == null || steps < 0) return -1;
            int kept = 0;
            while (kept < steps && exchange()) kept++;
            heldSum = sumOf(held, needs);
            return kept;
        }

        private boolean exchange() {
            for (int d = 0; d < needs.size(); d++) {
                for (int p = 0; p < places.size(); p++) {
                    if (held[d] < 0 || held[d] == p) continue;
                    int[] other = held.clone();
                    other[d] = p;
                    if (isPlan(other, needs) && sumOf(other, needs) < sumOf(held, needs)) {
                        held = other;
                        return true;
                    }
                }
            }
            return false;
        }

        /** Every way over the years, in the order of their sets: only the strictly lesser takes over. */
        long years(int n) {
            if (n < 1 || n > 6) return -1;
            int sets = 1 << places.size();
            long[][] sums = new long[n][sets];
            for (int t = 0; t < n; t++) {
                List<Long> wants = new ArrayList<>();
                for (long need : needs) wants.add(need + t * (need / 10));
                for (int set = 0; set < sets; set++) {
                    int[] plan = mayBeOpen(set) ? best(wants, set) : null;
                    sums[t][set] = plan == null ? -1 : sumOf(plan, wants);
                }
            }
            long[] least = {-1};
            int[][] found = new int[1][];
            eachWay(sums, 0, 0, new int[n], least, found);
            if (found[0] == null) return -1;
            open = found[0];
            return least[0];
        }

        private void eachWay(long[][] sums, int t, long cost, int[] way, long[] least, int[][] found) {
            if (t == sums.length) {
                if (found[0] == null || cost < least[0]) {
                    least[0] = cost;
                    found[0] = way.clone();
                }
                return;
            }
            for (int set = 0; set < sums[t].length; set++) {
                if (sums[t][set] < 0) continue;
                int fresh = t == 0 ? set : set & ~way[t - 1];
                long opening = 0;
                for (int p = 0; p < places.size(); p++) {
                    if ((fresh & 1 << p) != 0) opening += places.get(p)[2];
                }
                way[t] = set;
                eachWay(sums, t + 1, cost + sums[t][set] + opening, way, least, found);
            }
        }

        long open(int p, int year) {
            if (!isPlace(p) || open == null || year < 0 || year >= open.length) return -1;
            return open[year] >> p & 1;
        }
    }

    private static void due(int run, String call, long got, long want) {
        if (got != want) {
            wrong++;
            if (wrong < 40) {
                System.out.println("run " + run + ": " + call + " answered " + got + ", due is " + want);
            }
        }
    }

    /** What was met, so that a change here cannot quietly leave a promise untried. */
    private static final String[] KINDS = {"plan found", "clash of 1", "clash of more", "gain above 0",
        "improved", "years found", "years with a change of sets"};
    private static final int[] MET = new int[KINDS.length];

    private static void met(int kind, boolean is) {
        if (is) MET[kind]++;
    }

    private static void checkReach() {
        for (int kind = 0; kind < KINDS.length; kind++) {
            System.out.println(KINDS[kind] + ": " + MET[kind]);
            if (MET[kind] < 100) {
                wrong++;
                System.out.println("too few: " + KINDS[kind]);
            }
        }
    }

    private static long flag(boolean answer) {
        return answer ? 1 : 0;
    }

    /** Small numbers make ties and full rooms common; now and then comes a wrong one. */
    private static void tell(int run, Random r, SiteChoice x, Plain o, int most) {
        int d = r.nextInt(20) == 0 ? r.nextInt(9) - 1 : r.nextInt(o.needs.size() + 1);
        int p = r.nextInt(20) == 0 ? r.nextInt(9) - 1 : r.nextInt(o.places.size() + 1);
        switch (r.nextInt(16)) {
            case 0: {
                long need = r.nextInt(8) == 0 ? r.nextInt(104) - 2 : r.nextInt(4) == 0 ? 0 : 8 + r.nextInt(25);
                if (o.needs.size() < most || need < 0 || need > 100) due(run, "district", x.district(need), o.district(need));
                break;
            }
            case 1: {
                long px = r.nextInt(30) == 0 ? 1001 : r.nextInt(9) - 4;
                long py = r.nextInt(30) == 0 ? -1001 : r.nextInt(9) - 4;
                long cost = r.nextInt(20) == 0 ? r.nextInt(3) - 1 : r.nextInt(60);
                long room = r.nextInt(20) == 0 ? 998 + r.nextInt(5) : 10 + r.nextInt(60);
                if (o.places.size() < most) due(run, "place", x.place(px, py, cost, room), o.place(px, py, cost, room));
                break;
            }
            case 2: {
                if (r.nextInt(run % 3 == 0 ? 4 : 60) == 0) due(run, "bar", flag(x.bar(p)), o.bar(p));
                break;
            }
            case 3: {
                long metres = r.nextInt(run % 3 == 0 ? 10 : 100) == 0 ? 2999 + r.nextInt(3) : r.nextInt(7) - 1;
                due(run, "noise", flag(x.noise(p, metres)), o.noise(p, metres));
                break;
            }
            case 4: {
                long cents = r.nextInt(2) == 0 ? 9999999 + r.nextInt(3) : r.nextInt(200) - 4;
                due(run, "budget", flag(x.budget(cents)), o.budget(cents));
                break;
            }
            case 5: {
                long metres = r.nextInt(5) > run % 3 ? 9999 + r.nextInt(3) : r.nextInt(10) - 1;
                due(run, "fair", flag(x.fair(d, metres)), o.fair(d, metres));
                break;
            }
            default: {
                long metres = r.nextInt(20) == 0 ? 9999 + r.nextInt(3) : r.nextInt(10) - 1;
                due(run, "walk", flag(x.walk(d, p, metres)), o.walk(d, p, metres));
            }
        }
    }

    private static void ask(int run, Random r, SiteChoice x, Plain o) {
        int p = r.nextInt(20) == 0 ? r.nextInt(9) - 1 : r.nextInt(o.places.size() + 1);
        switch (r.nextInt(6)) {
            case 0, 1 -> {
                long nodes = r.nextInt(6) == 0 ? r.nextInt(300) - 20 : 100000;
                long answer = o.run(nodes);
                due(run, "run(" + nodes + ")", x.run(nodes), answer);
                met(0, answer == 0 && o.sum() > 0);
                met(1, answer == 2 && o.clash.size() == 1);
                met(2, answer == 2 && o.clash.size() > 1);
            }
            case 2 -> {
                long answer = o.gain(p);
                due(run, "gain(" + p + ")", x.gain(p), answer);
                met(3, answer > 0);
            }
            case 3, 4 -> {
                int steps = r.nextInt(4) == 0 ? r.nextInt(3) - 1 : 9;
                long answer = o.improve(steps);
                due(run, "improve(" + steps + ")", x.improve(steps), answer);
                met(4, answer > 0);
            }
            default -> {
                int places = o.places.size();
                int n = r.nextInt(9) - 1;
                if (n * places > 15) n = 15 / places;
                long answer = o.years(n);
                due(run, "years(" + n + ")", x.years(n), answer);
                met(5, answer > 0);
                met(6, answer > 0 && o.open[0] != o.open[n - 1]);
            }
        }
    }

    private static void compareHeld(int run, SiteChoice x, Plain o) {
        due(run, "ways()", x.ways(), o.ways());
        due(run, "bound()", x.bound(), o.bound());
        due(run, "sum()", x.sum(), o.sum());
        due(run, "proved()", flag(x.proved()), flag(o.proved));
        for (int i = -1; i < 7; i++) {
            due(run, "of(" + i + ")", x.of(i), o.of(i));
            due(run, "chosen(" + i + ")", flag(x.chosen(i)), o.chosen(i));
            due(run, "clash(" + i + ")", x.clash(i), o.clash(i));
            for (int year = -1; year < 7; year++) {
                due(run, "open(" + i + ", " + year + ")", x.open(i, year), o.open(i, year));
            }
        }
    }

    public static void main(String[] args) {
        for (int run = 0; run < RUNS; run++) {
            Random r = new Random(run);
            SiteChoice x = new SiteChoice();
            Plain o = new Plain();
            int most = 2 + run % 5;
            for (int call = 0; call < CALLS; call++) {
                tell(run, r, x, o, most);
                if (call > 40 && r.nextInt(5) == 0) {
                    ask(run, r, x, o);
                    compareHeld(run, x, o);
                }
            }
        }
        checkReach();
        System.out.println(wrong == 0 ? "all answers are as due" : wrong + " answers are not as due");
        if (wrong != 0) {
            System.exit(1);
        }
    }
}

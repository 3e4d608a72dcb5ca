import java.util.Arrays;

/**
 * Chooses which places are opened to serve districts at the least walk that needs make.
 *
 * <p>All rows are made with the object and used again, so that no call makes anything.
 */
public final class SiteChoice {
    public static final int NONE = -1;

    private static final int MOST_DISTRICTS = 6;
    private static final int MOST_PLACES = 5;
    private static final int MOST_YEARS = 6;
    private static final int ALL_PLACES = (1 << MOST_PLACES) - 1;
    private static final int PLACE_SETS = 1 << MOST_PLACES;
    private static final long MOST_NEED = 100L;
    private static final long FARTHEST = 1000L;
    private static final long MOST_COST = 1000000L;
    private static final long MOST_ROOM = 1000L;
    private static final long MOST_WALK = 10000L;
    private static final long MOST_NOISE = 3000L;
    private static final long MOST_BUDGET = 10000000L;
    private static final long ROOM_FOR_ALL = MOST_DISTRICTS * MOST_NEED;

    /** 5 places for each of 6 districts: no more can be held one after the other, as each has a lesser sum. */
    private static final int MOST_EXCHANGES = 15625;

    private static final int FOUND = 0;
    private static final int TOO_MANY_WAYS = 1;
    private static final int NO_PLAN = 2;

    private final Town town;
    private final Search search;
    private final HeldPlan held;
    private final Unserved unserved;
    private final Calendar calendar;
    private boolean isProven;

    public SiteChoice() {
        town = new Town();
        search = new Search();
        held = new HeldPlan();
        unserved = new Unserved();
        calendar = new Calendar();
        isProven = false;
    }

    public int district(long need) {
        if (town.districts >= MOST_DISTRICTS || !isWithin(need, 0L, MOST_NEED)) {
            return NONE;
        }
        isProven = false;
        return town.addDistrict(need);
    }

    public int place(long x, long y, long cost, long room) {
        if (town.places >= MOST_PLACES
                || !isWithin(x, -FARTHEST, FARTHEST)
                || !isWithin(y, -FARTHEST, FARTHEST)
                || !isWithin(cost, 0L, MOST_COST)
                || !isWithin(room, 0L, MOST_ROOM)) {
            return NONE;
        }
        isProven = false;
        return town.addPlace(x, y, cost, room);
    }

    public boolean walk(int district, int place, long metres) {
        if (!town.hasDistrict(district) || !town.hasPlace(place) || !isWithin(metres, 0L, MOST_WALK)) {
            return false;
        }
        town.metres[district][place] = metres;
        isProven = false;
        return true;
    }

    public boolean bar(int place) {
        if (!town.hasPlace(place) || town.isBarred[place]) {
            return false;
        }
        town.isBarred[place] = true;
        isProven = false;
        return true;
    }

    public boolean noise(int place, long metres) {
        if (!town.hasPlace(place) || !isWithin(metres, 0L, MOST_NOISE)) {
            return false;
        }
        town.loudness[place] = metres;
        isProven = false;
        return true;
    }

    public boolean budget(long cents) {
        if (!isWithin(cents, 0L, MOST_BUDGET)) {
            return false;
        }
        town.cents = cents;
        isProven = false;
        return true;
    }

    public boolean fair(int district, long most) {
        if (!town.hasDistrict(district) || !isWithin(most, 0L, MOST_WALK)) {
            return false;
        }
        town.most[district] = most;
        isProven = false;
        return true;
    }

    public long ways() {
        return town.countWays();
    }

    public int run(long nodes) {
        if (nodes < 0L) {
            return NONE;
        }
        held.drop();
        unserved.forget();
        isProven = false;
        if (town.countWays() > nodes) {
            return TOO_MANY_WAYS;
        }
        search.load(town, NONE);
        long least = search.leastSum(ALL_PLACES);
        if (least == NONE) {
            unserved.find(town, search);
            return NO_PLAN;
        }
        held.keep(search.bestGiven, least);
        isProven = true;
        return FOUND;
    }

    public boolean chosen(int place) {
        return town.hasPlace(place) && held.gives(place);
    }

    public int of(int district) {
        return town.hasDistrict(district) ? held.placeFor(district) : NONE;
    }

    public long sum() {
        return held.isThere ? held.total : NONE;
    }

    public long bound() {
        search.load(town, NONE);
        return search.leastThinkable();
    }

    public boolean proved() {
        return isProven;
    }

    public int clash(int k) {
        return unserved.member(k);
    }

    public long gain(int place) {
        if (!town.hasPlace(place)) {
            return NONE;
        }
        search.load(town, NONE);
        long without = search.leastSum(ALL_PLACES);
        if (without == NONE) {
            return NONE;
        }
        search.load(town, place);
        return without - search.leastSum(ALL_PLACES);
    }

    public int improve(int steps) {
        if (!held.isThere || steps < 0) {
            return NONE;
        }
        search.load(town, NONE);
        int limit = Math.min(steps, MOST_EXCHANGES);
        int kept = 0;
        while (kept < limit && held.exchangeFirst(town, search)) {
            kept++;
        }
        held.reckonTotal(town);
        return kept;
    }

    public int years(int n) {
        if (!isWithin(n, 1L, MOST_YEARS)) {
            return NONE;
        }
        return (int) calendar.lookOver(n, town, search);
    }

    public int open(int place, int year) {
        return town.hasPlace(place) ? calendar.isOpenIn(place, year) : NONE;
    }

    private static boolean isWithin(long number, long least, long most) {
        return number >= least && number <= most;
    }

    /** What was told. */
    private static final class Town {
        int districts;
        int places;
        long cents;
        final long[] needs;
        final long[] most;
        final long[][] metres;
        final long[] x;
        final long[] y;
        final long[] costs;
        final long[] rooms;
        final long[] loudness;
        final boolean[] isBarred;

        Town() {
            districts = 0;
            places = 0;
            cents = MOST_BUDGET;
            needs = new long[MOST_DISTRICTS];
            most = new long[MOST_DISTRICTS];
            metres = new long[MOST_DISTRICTS][MOST_PLACES];
            x = new long[MOST_PLACES];
            y = new long[MOST_PLACES];
            costs = new long[MOST_PLACES];
            rooms = new long[MOST_PLACES];
            loudness = new long[MOST_PLACES];
            isBarred = new boolean[MOST_PLACES];
        }

        boolean hasDistrict(int district) {
            return district >= 0 && district < districts;
        }

        boolean hasPlace(int place) {
            return place >= 0 && place < places;
        }

        int addDistrict(long need) {
            int number = districts;
            if (number >= MOST_DISTRICTS) {
                return NONE;
            }
            needs[number] = need;
            most[number] = MOST_WALK;
            Arrays.fill(metres[number], NONE);
            districts = number + 1;
            return number;
        }

        int addPlace(long atX, long atY, long cost, long room) {
            int number = places;
            if (number >= MOST_PLACES) {
                return NONE;
            }
            x[number] = atX;
            y[number] = atY;
            costs[number] = cost;
            rooms[number] = room;
            places = number + 1;
            return number;
        }

        /** The metres to a place that isn't barred and to which the district can go, or NONE. */
        long reach(int district, int place) {
            if (!hasDistrict(district) || !hasPlace(place) || isBarred[place]) {
                return NONE;
            }
            long told = metres[district][place];
            return told != NONE && told <= most[district] ? told : NONE;
        }

        long countWays() {
            long product = 1L;
            for (int d = 0; d < districts; d++) {
                if (needs[d] > 0L) {
                    product *= countReached(d);
                }
            }
            return product;
        }

        private long countReached(int district) {
            long count = 0L;
            for (int p = 0; p < places; p++) {
                if (reach(district, p) != NONE) {
                    count++;
                }
            }
            return count;
        }

        boolean isTooNear(int one, int other) {
            long across = x[one] - x[other];
            long along = y[one] - y[other];
            long loudest = Math.max(loudness[one], loudness[other]);
            return across * across + along * along < loudest * loudest;
        }
    }

    /** Looks for the best plan in a copy of what was told, so that "what if" never touches the town. */
    private static final class Search {
        int districts;
        int places;
        final long[] needs;
        final long[] rooms;
        final long[][] reaches;
        final boolean[] mayBeOpen;
        final long[] setCosts;
        /** The least that the districts from one on could add to a sum. */
        final long[] leastRest;
        final long[] roomLeft;
        final int[] given;
        final int[] bestGiven;
        long bestSum;
        int usable;
        boolean firstWillDo;

        Search() {
            districts = 0;
            places = 0;
            needs = new long[MOST_DISTRICTS];
            rooms = new long[MOST_PLACES];
            reaches = new long[MOST_DISTRICTS][MOST_PLACES];
            mayBeOpen = new boolean[PLACE_SETS];
            setCosts = new long[PLACE_SETS];
            leastRest = new long[MOST_DISTRICTS + 1];
            roomLeft = new long[MOST_PLACES];
            given = new int[MOST_DISTRICTS];
            bestGiven = new int[MOST_DISTRICTS];
            bestSum = NONE;
            usable = 0;
            firstWillDo = false;
        }

        /** Takes the town as it is, but for a place (or NONE) that costs nothing and has room for all. */
        void load(Town town, int freePlace) {
            districts = town.districts;
            places = town.places;
            loadNeedsOfYear(town, 0);
            for (int p = 0; p < places; p++) {
                rooms[p] = p == freePlace ? ROOM_FOR_ALL : town.rooms[p];
                for (int d = 0; d < districts; d++) {
                    reaches[d][p] = town.reach(d, p);
                }
            }
            loadSets(town, freePlace);
        }

        void loadNeedsOfYear(Town town, int year) {
            for (int d = 0; d < districts; d++) {
                needs[d] = town.needs[d] + year * (town.needs[d] / 10L);
            }
        }

        /** Leaves a need only to the districts of a set, told as in Unserved. */
        void loadNeedsOfSet(Town town, int code) {
            for (int d = 0; d < districts; d++) {
                needs[d] = Unserved.isIn(code, d, districts) ? town.needs[d] : 0L;
            }
        }

        /** Each set is the set without its last place, and that place: so one pass upwards tells all. */
        private void loadSets(Town town, int freePlace) {
            mayBeOpen[0] = true;
            setCosts[0] = 0L;
            for (int p = 0; p < places; p++) {
                int bit = 1 << p;
                long cost = p == freePlace ? 0L : town.costs[p];
                for (int before = 0; before < bit; before++) {
                    int set = before | bit;
                    setCosts[set] = setCosts[before] + cost;
                    mayBeOpen[set] = mayBeOpen[before]
                            && !town.isBarred[p]
                            && setCosts[set] <= town.cents
                            && !isAnyTooNear(town, before, p);
                }
            }
        }

        private static boolean isAnyTooNear(Town town, int set, int place) {
            for (int other = 0; other < place; other++) {
                if ((set >> other & 1) == 1 && town.isTooNear(other, place)) {
                    return true;
                }
            }
            return false;
        }

        /** The best plan's sum among those that give but places of a set, or NONE; bestGiven is that plan. */
        long leastSum(int within) {
            bestSum = NONE;
            usable = within;
            if (reckonLeastRest()) {
                System.arraycopy(rooms, 0, roomLeft, 0, MOST_PLACES);
                Arrays.fill(given, NONE);
                give(0, 0, 0L);
            }
            return bestSum;
        }

        boolean hasPlan() {
            firstWillDo = true;
            long sum = leastSum(ALL_PLACES);
            firstWillDo = false;
            return sum != NONE;
        }

        /** What all would walk if each went to its nearest place, or NONE when one can go to none. */
        long leastThinkable() {
            usable = ALL_PLACES;
            return reckonLeastRest() ? leastRest[0] : NONE;
        }

        /** False when a district with a need has no usable place at all. */
        private boolean reckonLeastRest() {
            leastRest[districts] = 0L;
            for (int d = districts - 1; d >= 0; d--) {
                leastRest[d] = leastRest[d + 1];
                if (needs[d] > 0L) {
                    long nearest = nearestUsable(d);
                    if (nearest == NONE) {
                        return false;
                    }
                    leastRest[d] += needs[d] * nearest;
                }
            }
            return true;
        }

        private long nearestUsable(int district) {
            long nearest = NONE;
            for (int p = 0; p < places; p++) {
                long there = isUsable(p) ? reaches[district][p] : NONE;
                if (there != NONE && (nearest == NONE || there < nearest)) {
                    nearest = there;
                }
            }
            return nearest;
        }

        private boolean isUsable(int place) {
            return (usable >> place & 1) == 1;
        }

        /** Gives places to the districts from one on; each district leaves two calls open, so twelve at most. */
        private void give(int from, int opened, long soFar) {
            int district = nextWithNeed(from);
            if (district >= districts) {
                keepIfBetter(soFar);
            } else if (!isHopeless(soFar + leastRest[district])) {
                giveEachPlace(district, opened, soFar);
            }
        }

        /**
         * Lesser places come first, so of equal sums the first plan is met first, and only a lesser
         * sum takes its stead.
         */
        private void giveEachPlace(int district, int opened, long soFar) {
            for (int p = 0; p < places; p++) {
                int set = opened | 1 << p;
                if (canTake(p, district) && mayBeOpen[set]) {
                    roomLeft[p] -= needs[district];
                    given[district] = p;
                    give(district + 1, set, soFar + needs[district] * reaches[district][p]);
                    roomLeft[p] += needs[district];
                }
            }
        }

        private int nextWithNeed(int from) {
            int district = from;
            while (district < districts && needs[district] == 0L) {
                district++;
            }
            return district;
        }

        private boolean isHopeless(long leastPossible) {
            return bestSum != NONE && (firstWillDo || leastPossible >= bestSum);
        }

        private boolean canTake(int place, int district) {
            return isUsable(place) && reaches[district][place] != NONE && roomLeft[place] >= needs[district];
        }

        private void keepIfBetter(long total) {
            if (bestSum == NONE || total < bestSum) {
                bestSum = total;
                System.arraycopy(given, 0, bestGiven, 0, MOST_DISTRICTS);
            }
        }

        boolean isPlan(int[] placesGiven) {
            System.arraycopy(rooms, 0, roomLeft, 0, MOST_PLACES);
            usable = ALL_PLACES;
            int set = 0;
            for (int d = 0; d < districts; d++) {
                int p = placesGiven[d];
                if (needs[d] > 0L) {
                    if (p < 0 || p >= places || !canTake(p, d)) {
                        return false;
                    }
                    roomLeft[p] -= needs[d];
                    set |= 1 << p;
                } else if (p != NONE) {
                    return false;
                }
            }
            return mayBeOpen[set];
        }
    }

    /** The plan that run() found and improve() changed, whatever was told since. */
    private static final class HeldPlan {
        boolean isThere;
        long total;
        final int[] given;

        HeldPlan() {
            isThere = false;
            total = 0L;
            given = new int[MOST_DISTRICTS];
        }

        void drop() {
            isThere = false;
        }

        void keep(int[] found, long leastSum) {
            isThere = true;
            total = leastSum;
            System.arraycopy(found, 0, given, 0, MOST_DISTRICTS);
        }

        int placeFor(int district) {
            return isThere && district >= 0 && district < MOST_DISTRICTS ? given[district] : NONE;
        }

        boolean gives(int place) {
            for (int d = 0; d < MOST_DISTRICTS; d++) {
                if (placeFor(d) == place) {
                    return true;
                }
            }
            return false;
        }

        void reckonTotal(Town town) {
            total = 0L;
            for (int d = 0; d < town.districts; d++) {
                int p = given[d];
                if (town.hasPlace(p)) {
                    total += town.needs[d] * town.metres[d][p];
                }
            }
        }

        boolean exchangeFirst(Town town, Search search) {
            for (int d = 0; d < town.districts; d++) {
                for (int p = 0; p < town.places; p++) {
                    if (exchange(d, p, town, search)) {
                        return true;
                    }
                }
            }
            return false;
        }

        /** A given district has a need above 0, so the sum becomes less just when its own walk does. */
        private boolean exchange(int district, int place, Town town, Search search) {
            int before = given[district];
            long there = town.reach(district, place);
            if (!town.hasPlace(before) || there == NONE || there >= town.metres[district][before]) {
                return false;
            }
            given[district] = place;
            if (search.isPlan(given)) {
                return true;
            }
            given[district] = before;
            return false;
        }
    }

    /**
     * The least set of districts that can't be served. A set is told as a number in which district 0
     * has the highest bit: of two sets with as many districts the greater number is then the first.
     */
    private static final class Unserved {
        int count;
        final int[] members;

        Unserved() {
            count = 0;
            members = new int[MOST_DISTRICTS];
        }

        static boolean isIn(int code, int district, int districts) {
            return (code >> districts - 1 - district & 1) == 1;
        }

        void forget() {
            count = 0;
        }

        int member(int k) {
            return k >= 0 && k < count ? members[k] : NONE;
        }

        void find(Town town, Search search) {
            int districts = town.districts;
            for (int size = 1; size <= districts; size++) {
                for (int code = (1 << districts) - 1; code > 0; code--) {
                    if (Integer.bitCount(code) == size) {
                        search.loadNeedsOfSet(town, code);
                        if (!search.hasPlan()) {
                            list(code, districts);
                            return;
                        }
                    }
                }
            }
        }

        private void list(int code, int districts) {
            count = 0;
            for (int d = 0; d < districts; d++) {
                if (isIn(code, d, districts)) {
                    members[count] = d;
                    count++;
                }
            }
        }
    }

    /** Which places are open over some years. */
    private static final class Calendar {
        int heldYears;
        final int[] heldSets;
        /** For a year and the set open in it: the least sum of a plan, or NONE. */
        final long[][] sums;
        /** The same with all that the later years cost, but without what opening the set costs. */
        final long[][] onward;

        Calendar() {
            heldYears = 0;
            heldSets = new int[MOST_YEARS];
            sums = new long[MOST_YEARS][PLACE_SETS];
            onward = new long[MOST_YEARS][PLACE_SETS];
        }

        int isOpenIn(int place, int year) {
            if (year < 0 || year >= heldYears || place < 0 || place >= MOST_PLACES) {
                return NONE;
            }
            return heldSets[year] >> place & 1;
        }

        long lookOver(int count, Town town, Search search) {
            search.load(town, NONE);
            int sets = 1 << town.places;
            reckonSums(count, sets, town, search);
            reckonOnward(count, sets, search);
            int first = cheapestNext(0, 0, sets, search);
            if (first == NONE) {
                return NONE;
            }
            hold(count, sets, search);
            return search.setCosts[first] + onward[0][first];
        }

        private void reckonSums(int count, int sets, Town town, Search search) {
            for (int year = 0; year < count; year++) {
                search.loadNeedsOfYear(town, year);
                for (int set = 0; set < sets; set++) {
                    sums[year][set] = search.mayBeOpen[set] ? search.leastSum(set) : NONE;
                }
            }
        }

        private void reckonOnward(int count, int sets, Search search) {
            for (int year = count - 1; year >= 0; year--) {
                for (int set = 0; set < sets; set++) {
                    onward[year][set] = year == count - 1 || sums[year][set] == NONE
                            ? sums[year][set]
                            : withNext(year, set, sets, search);
                }
            }
        }

        private long withNext(int year, int set, int sets, Search search) {
            int next = cheapestNext(year + 1, set, sets, search);
            return next == NONE
                    ? NONE
                    : sums[year][set] + search.setCosts[next & ~set] + onward[year + 1][next];
        }

        /** The set for a year that is cheapest from then on, the least of such, or NONE. */
        private int cheapestNext(int year, int before, int sets, Search search) {
            int cheapest = NONE;
            long least = 0L;
            for (int set = 0; set < sets; set++) {
                if (onward[year][set] != NONE) {
                    long cost = search.setCosts[set & ~before] + onward[year][set];
                    if (cheapest == NONE || cost < least) {
                        cheapest = set;
                        least = cost;
                    }
                }
            }
            return cheapest;
        }

        private void hold(int count, int sets, Search search) {
            heldYears = count;
            int before = 0;
            for (int year = 0; year < count; year++) {
                int set = cheapestNext(year, before, sets, search);
                heldSets[year] = set;
                before = set;
            }
        }
    }
}

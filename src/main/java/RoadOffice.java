import java.util.Arrays;
import java.util.NoSuchElementException;

/**
 * An office that counts roads, leads roads that were counted a few days to a year, and changes
 * flows as little as their doubts let. ../shared/DOC.md has the promises that it keeps.
 *
 * <p>A PLACE in this file is a ROAD and a DAY in one number: road times 84, plus day.
 */
public final class RoadOffice {
    public static final int NONE = -1;

    private static final int NO_ENTRY = -2;
    private static final int APART = -3;
    private static final int NOT_ASKABLE = -4;

    private static final int ROADS = 16;
    private static final int CROSSINGS = 8;
    private static final int INNER = 4;
    private static final int GROUPS = 4;
    private static final int KINDS = 3;
    private static final int WEEK = 7;
    private static final int MONTHS = 12;
    private static final int DAYS = WEEK * MONTHS;
    private static final int LAST_NOW = 99;

    private static final int TAPE_BYTES = 200;
    private static final int FEED_BYTES = 20;
    private static final int COUNT_BYTES = 7;
    private static final int NOT_COUNTED_BYTE = 255;
    private static final int MOST_COUNTED = 50;
    private static final int MOST_ENTRIES = 600;

    private static final int POSTS_OF_A_GROUP = 4;
    private static final int SAMPLE_DAYS = 14;
    private static final int TRIAL_DAYS = 7;
    // Behind the groups' own slots: the group of a trial, which lacks the post that is tried.
    private static final int TRIAL_SLOT = GROUPS;
    private static final int SLOTS = GROUPS + 1;
    private static final int DOUBT_BASE = 15;
    private static final int MOST_FLOW = 100000;

    // Euclid's steps on two longs are 92 at most.
    private static final int EUCLID_STEPS = 200;

    private final Tape tape;
    private final Roads roads;
    private final Books books;
    private final View view;
    private final Balance balance;
    private final Fraction fraction;
    private int now;

    public RoadOffice() {
        tape = new Tape();
        roads = new Roads();
        books = new Books();
        view = new View(roads, books);
        balance = new Balance();
        fraction = new Fraction();
        now = 0;
    }

    public int feed(int a, int b, int c, int d, int e) {
        if (tape.length() + FEED_BYTES > TAPE_BYTES) {
            return NONE;
        }
        tape.append(a);
        tape.append(b);
        tape.append(c);
        tape.append(d);
        tape.append(e);
        return tape.length();
    }

    public boolean end(int n) {
        return tape.cut(n);
    }

    public boolean road(int r, int from, int to, int group) {
        if (!isBelow(r, ROADS) || roads.has(r)) {
            return false;
        }
        if (!isBelow(from, CROSSINGS) || !isBelow(to, CROSSINGS) || from == to) {
            return false;
        }
        if (group != NONE && !isBelow(group, GROUPS)) {
            return false;
        }
        roads.add(r, from, to, group);
        view.forget();
        return true;
    }

    public int count(int r, int day) {
        int counted = enterKinds(r, day);
        tape.cut(0);
        view.forget();
        return counted;
    }

    public int counts(int r, int from) {
        int came = enterRow(r, from);
        tape.cut(0);
        view.forget();
        return came;
    }

    public int later() {
        if (now >= LAST_NOW) {
            return NONE;
        }
        now++;
        return now;
    }

    public int works(int r, int from, int to, boolean on) {
        if (!roads.has(r) || from < 0 || from > to || to > DAYS) {
            return NONE;
        }
        int changed = 0;
        for (int day = from; day < to; day++) {
            if (books.setApart(r * DAYS + day, on)) {
                changed++;
            }
        }
        view.forget();
        return changed;
    }

    public int seen(int r, int day, int t) {
        if (!isAskable(r, t) || !isBelow(day, DAYS)) {
            return NOT_ASKABLE;
        }
        return books.state(r * DAYS + day, t);
    }

    public int kind(int r, int day, int t, int k) {
        if (!isAskable(r, t) || !isBelow(day, DAYS) || !isBelow(k, KINDS)) {
            return NONE;
        }
        int place = r * DAYS + day;
        return books.state(place, t) < 0 ? NONE : books.ofKind(place, t, k);
    }

    public int whole(int r, int t) {
        if (!isAskable(r, t)) {
            return NONE;
        }
        view.lookAt(t);
        return view.isWholePost(r) ? 1 : 0;
    }

    public int posts(int g, int t) {
        if (!isBelow(g, GROUPS) || t < 0) {
            return NONE;
        }
        view.lookAt(t);
        return view.isThere(g) ? view.postsOf(g) : 0;
    }

    public int worth(int g, int day, int t) throws NoSuchElementException {
        if (!isBelow(g, GROUPS) || !isBelow(day, DAYS) || t < 0) {
            throw new NoSuchElementException("no such group, day or time");
        }
        view.lookAt(t);
        if (!view.isThere(g)) {
            throw new NoSuchElementException("the group is not there");
        }
        return view.dayValue(g, day);
    }

    public int sample(int r, int t) {
        if (!isAskable(r, t)) {
            return NONE;
        }
        view.lookAt(t);
        return view.sampleSizeOf(r);
    }

    public int fit(int r, int k, int t) {
        if (!isAskable(r, t)) {
            return NONE;
        }
        view.lookAt(t);
        return view.groupAtRank(r, k);
    }

    public long year(int r, int t, int what) throws NoSuchElementException {
        if (!isAskable(r, t) || !isPart(what)) {
            throw new NoSuchElementException("no such road, time or part");
        }
        view.lookAt(t);
        if (!view.putYear(r, fraction)) {
            throw new NoSuchElementException("the year is not told");
        }
        return fraction.part(what);
    }

    public long trial(int r, int t, int what) throws NoSuchElementException {
        if (!isAskable(r, t) || !isPart(what)) {
            throw new NoSuchElementException("no such road, time or part");
        }
        view.lookAt(t);
        if (!view.putTrial(r, fraction)) {
            throw new NoSuchElementException("there is no trial");
        }
        return fraction.part(what);
    }

    public int flow(int r, int t) {
        if (!isAskable(r, t)) {
            return NONE;
        }
        view.lookAt(t);
        view.findFlows();
        return view.flowOf(r);
    }

    public int missing(int c, int t) throws NoSuchElementException {
        if (!isBelow(c, CROSSINGS) || t < 0) {
            throw new NoSuchElementException("no such crossing or time");
        }
        view.lookAt(t);
        view.findFlows();
        return excessAt(c);
    }

    public long agreed(int r, int t, int what) throws NoSuchElementException {
        if (!isAskable(r, t) || !isPart(what)) {
            throw new NoSuchElementException("no such road, time or part");
        }
        view.lookAt(t);
        view.findFlows();
        if (view.flowOf(r) == NONE) {
            throw new NoSuchElementException("the road has no flow");
        }
        settleBalance();
        balance.putAgreed(roads.start(r), roads.goal(r), view.flowOf(r), view.doubtOf(r), fraction);
        return fraction.part(what);
    }

    public int told(int what) {
        switch (what) {
            case 0:
                return roads.number();
            case 1:
                return books.number();
            case 2:
                return now;
            case 3:
                return tape.length();
            default:
                return NONE;
        }
    }

    private static boolean isBelow(int number, int bound) {
        return number >= 0 && number < bound;
    }

    private static boolean isPart(int what) {
        return what == 0 || what == 1;
    }

    private boolean isAskable(int r, int t) {
        return roads.has(r) && t >= 0;
    }

    private int enterKinds(int r, int day) {
        if (!roads.has(r) || !isBelow(day, DAYS)) {
            return NONE;
        }
        if (tape.length() != COUNT_BYTES || !books.hasRoomFor(1)) {
            return NONE;
        }
        int kind0 = tape.at(0) + tape.at(KINDS);
        int kind1 = tape.at(1) + tape.at(KINDS + 1);
        int kind2 = tape.at(2) + tape.at(KINDS + 2);
        int counted = kind0 + kind1 + kind2 - tape.at(2 * KINDS);
        if (counted < 0 || counted > MOST_COUNTED) {
            return NONE;
        }
        books.enter(r * DAYS + day, now, counted);
        books.tellKinds(kind0, kind1, kind2);
        return counted;
    }

    private int enterRow(int r, int from) {
        int length = tape.length();
        // An empty row is taken at 84 too: no DAY of it is beyond the YEAR.
        if (!roads.has(r) || from < 0 || from > DAYS - length) {
            return NONE;
        }
        if (!books.hasRoomFor(length) || !tape.holdsCountsAlone()) {
            return NONE;
        }
        for (int i = 0; i < length; i++) {
            int number = tape.at(i);
            boolean counted = number != NOT_COUNTED_BYTE;
            books.enter(r * DAYS + from + i, now, counted ? number : NONE);
            books.tellKinds(counted ? number : 0, 0, 0);
        }
        return length;
    }

    private int excessAt(int c) {
        int excess = 0;
        for (int r = 0; r < ROADS; r++) {
            if (view.flowOf(r) != NONE) {
                if (roads.goal(r) == c) {
                    excess += view.flowOf(r);
                }
                if (roads.start(r) == c) {
                    excess -= view.flowOf(r);
                }
            }
        }
        return excess;
    }

    private void settleBalance() {
        balance.clear();
        for (int r = 0; r < ROADS; r++) {
            if (view.flowOf(r) != NONE) {
                balance.addRoad(roads.start(r), roads.goal(r), view.doubtOf(r));
            }
        }
        for (int c = 0; c < INNER; c++) {
            balance.setExcess(c, excessAt(c));
        }
        balance.settle();
    }

    /** The bytes that were fed and not used yet. */
    private static final class Tape {
        private final int[] bytes;
        private int length;

        Tape() {
            bytes = new int[TAPE_BYTES];
            length = 0;
        }

        int length() {
            return length;
        }

        int at(int i) {
            return isBelow(i, length) ? bytes[i] : 0;
        }

        void append(int number) {
            for (int shift = 24; shift >= 0 && length < TAPE_BYTES; shift -= 8) {
                bytes[length] = (number >>> shift) & 255;
                length++;
            }
        }

        boolean cut(int n) {
            if (n < 0 || n > length) {
                return false;
            }
            length = n;
            return true;
        }

        boolean holdsCountsAlone() {
            for (int i = 0; i < length; i++) {
                if (bytes[i] > MOST_COUNTED && bytes[i] != NOT_COUNTED_BYTE) {
                    return false;
                }
            }
            return true;
        }
    }

    /** The roads: whence, whither, and of which group. */
    private static final class Roads {
        private final boolean[] known;
        private final int[] starts;
        private final int[] goals;
        private final int[] groups;
        private int number;

        Roads() {
            known = new boolean[ROADS];
            starts = new int[ROADS];
            goals = new int[ROADS];
            groups = new int[ROADS];
            number = 0;
        }

        void add(int r, int from, int to, int group) {
            known[r] = true;
            starts[r] = from;
            goals[r] = to;
            groups[r] = group;
            number++;
        }

        boolean has(int r) {
            return isBelow(r, ROADS) && known[r];
        }

        boolean isPost(int r) {
            return has(r) && groups[r] != NONE;
        }

        int start(int r) {
            return starts[r];
        }

        int goal(int r) {
            return goals[r];
        }

        int group(int r) {
            return groups[r];
        }

        int number() {
            return number;
        }
    }

    /** The entries in the order in which they were told, and the places that are apart. */
    private static final class Books {
        private final int[] times;
        private final int[] counts;
        private final int[] kinds;
        // The entry of the same place that was told ahead of this one.
        private final int[] earlier;
        private final int[] newest;
        private final boolean[] apart;
        private int number;

        Books() {
            times = new int[MOST_ENTRIES];
            counts = new int[MOST_ENTRIES];
            kinds = new int[MOST_ENTRIES * KINDS];
            earlier = new int[MOST_ENTRIES];
            newest = new int[ROADS * DAYS];
            Arrays.fill(newest, NONE);
            apart = new boolean[ROADS * DAYS];
            number = 0;
        }

        int number() {
            return number;
        }

        boolean hasRoomFor(int more) {
            return number + more <= MOST_ENTRIES;
        }

        void enter(int place, int time, int counted) {
            if (number < MOST_ENTRIES) {
                times[number] = time;
                counts[number] = counted;
                earlier[number] = newest[place];
                newest[place] = number;
                number++;
            }
        }

        /** Of the entry that came last. */
        void tellKinds(int kind0, int kind1, int kind2) {
            if (number > 0) {
                int first = (number - 1) * KINDS;
                kinds[first] = kind0;
                kinds[first + 1] = kind1;
                kinds[first + 2] = kind2;
            }
        }

        boolean setApart(int place, boolean on) {
            boolean changed = apart[place] != on;
            apart[place] = on;
            return changed;
        }

        int state(int place, int t) {
            if (apart[place]) {
                return APART;
            }
            int entry = holding(place, t);
            return entry == NONE ? NO_ENTRY : counts[entry];
        }

        int ofKind(int place, int t, int k) {
            int entry = holding(place, t);
            return entry == NONE ? NONE : kinds[entry * KINDS + k];
        }

        // NOW never goes back, so the newest entry that is old enough is also the latest one.
        private int holding(int place, int t) {
            int entry = newest[place];
            for (int i = 0; i < MOST_ENTRIES && entry != NONE && times[entry] > t; i++) {
                entry = earlier[entry];
            }
            return entry;
        }
    }

    /** What the posts of a group have counted, by weekdays and by months; a slot for each group. */
    private static final class Tallies {
        private final int[] weekdays;
        private final int[] months;
        private final int[] totals;
        private final int[] posts;

        Tallies() {
            weekdays = new int[SLOTS * WEEK];
            months = new int[SLOTS * MONTHS];
            totals = new int[SLOTS];
            posts = new int[SLOTS];
        }

        void clear(int slot) {
            for (int i = 0; i < WEEK; i++) {
                weekdays[slot * WEEK + i] = 0;
            }
            for (int i = 0; i < MONTHS; i++) {
                months[slot * MONTHS + i] = 0;
            }
            totals[slot] = 0;
            posts[slot] = 0;
        }

        boolean isFull(int slot) {
            return posts[slot] >= POSTS_OF_A_GROUP;
        }

        void addPost(int slot) {
            posts[slot]++;
        }

        void addCount(int slot, int day, int counted) {
            weekdays[slot * WEEK + day % WEEK] += counted;
            months[slot * MONTHS + day / WEEK] += counted;
            totals[slot] += counted;
        }

        int numberOfPosts(int slot) {
            return posts[slot];
        }

        boolean isThere(int slot) {
            return posts[slot] > 0 && totals[slot] != 0;
        }

        int value(int slot, int day) {
            return weekdays[slot * WEEK + day % WEEK] * months[slot * MONTHS + day / WEEK];
        }

        // Each weekday meets each month once, so the values of all days add up to a square.
        long valueOfYear(int slot) {
            return (long) totals[slot] * totals[slot];
        }
    }

    /** All that follows from the entries AS OF one time, kept until something is told anew. */
    private static final class View {
        private final Roads roads;
        private final Books books;
        private final Tallies tallies;
        private final boolean[] wholePosts;
        private final int[] sampleDays;
        private final int[] sampleCounts;
        private int sampleSize;
        // By slot: the sum of COUNT times WORTH over the sample, and the sum of WORTH squared.
        private final long[] products;
        private final long[] squares;
        private final int[] flows;
        private final int[] doubts;
        private final Fraction yearly;
        private boolean flowsFound;
        private int time;

        View(Roads theRoads, Books theBooks) {
            roads = theRoads;
            books = theBooks;
            tallies = new Tallies();
            wholePosts = new boolean[ROADS];
            sampleDays = new int[SAMPLE_DAYS];
            sampleCounts = new int[SAMPLE_DAYS];
            sampleSize = 0;
            products = new long[SLOTS];
            squares = new long[SLOTS];
            flows = new int[ROADS];
            doubts = new int[ROADS];
            yearly = new Fraction();
            flowsFound = false;
            time = NONE;
        }

        void forget() {
            time = NONE;
        }

        void lookAt(int t) {
            if (t == time) {
                return;
            }
            time = t;
            flowsFound = false;
            for (int r = 0; r < ROADS; r++) {
                wholePosts[r] = roads.isPost(r) && isSeenAllTheYear(r);
            }
            for (int g = 0; g < GROUPS; g++) {
                tallyGroup(g, g, NONE);
            }
        }

        boolean isWholePost(int r) {
            return wholePosts[r];
        }

        boolean isThere(int g) {
            return tallies.isThere(g);
        }

        int postsOf(int g) {
            return tallies.numberOfPosts(g);
        }

        int dayValue(int g, int day) {
            return tallies.value(g, day);
        }

        int sampleSizeOf(int r) {
            drawDays(r, sampleLimit(r));
            return sampleSize;
        }

        int groupAtRank(int r, int k) {
            drawDays(r, sampleLimit(r));
            for (int g = 0; g < GROUPS; g++) {
                weighSample(g);
            }
            for (int g = 0; g < GROUPS; g++) {
                if (fits(g) && fitsAhead(g) == k) {
                    return g;
                }
            }
            return NONE;
        }

        boolean putYear(int r, Fraction result) {
            if (wholePosts[r]) {
                result.put(sumOfCounts(r), 1);
                return true;
            }
            int best = groupAtRank(r, 0);
            if (best == NONE) {
                return false;
            }
            putLedYear(best, result);
            return true;
        }

        boolean putTrial(int r, Fraction result) {
            if (!wholePosts[r]) {
                return false;
            }
            tallyGroup(TRIAL_SLOT, roads.group(r), r);
            drawDays(r, TRIAL_DAYS);
            weighSample(TRIAL_SLOT);
            if (!fits(TRIAL_SLOT)) {
                return false;
            }
            putLedYear(TRIAL_SLOT, result);
            return true;
        }

        void findFlows() {
            if (flowsFound) {
                return;
            }
            for (int r = 0; r < ROADS; r++) {
                boolean told = roads.has(r) && putYear(r, yearly);
                long rounded = told ? yearly.roundedHalfUp() : NONE;
                flows[r] = rounded <= MOST_FLOW ? (int) rounded : NONE;
                doubts[r] = wholePosts[r] ? 1 : DOUBT_BASE - sampleSizeOf(r);
            }
            flowsFound = true;
        }

        int flowOf(int r) {
            return flows[r];
        }

        int doubtOf(int r) {
            return doubts[r];
        }

        private int sampleLimit(int r) {
            return wholePosts[r] ? 0 : SAMPLE_DAYS;
        }

        private boolean isSeenAllTheYear(int r) {
            for (int day = 0; day < DAYS; day++) {
                if (books.state(r * DAYS + day, time) < 0) {
                    return false;
                }
            }
            return true;
        }

        private void tallyGroup(int slot, int g, int without) {
            tallies.clear(slot);
            for (int r = 0; r < ROADS; r++) {
                if (r != without && wholePosts[r] && roads.group(r) == g && !tallies.isFull(slot)) {
                    tallyPost(slot, r);
                }
            }
        }

        private void tallyPost(int slot, int r) {
            tallies.addPost(slot);
            for (int day = 0; day < DAYS; day++) {
                tallies.addCount(slot, day, books.state(r * DAYS + day, time));
            }
        }

        private int sumOfCounts(int r) {
            int sum = 0;
            for (int day = 0; day < DAYS; day++) {
                sum += books.state(r * DAYS + day, time);
            }
            return sum;
        }

        private void drawDays(int r, int most) {
            sampleSize = 0;
            for (int day = 0; day < DAYS && sampleSize < most; day++) {
                int counted = books.state(r * DAYS + day, time);
                if (counted >= 0) {
                    sampleDays[sampleSize] = day;
                    sampleCounts[sampleSize] = counted;
                    sampleSize++;
                }
            }
        }

        private void weighSample(int slot) {
            products[slot] = 0;
            squares[slot] = 0;
            if (tallies.isThere(slot)) {
                for (int i = 0; i < sampleSize; i++) {
                    long value = tallies.value(slot, sampleDays[i]);
                    products[slot] += value * sampleCounts[i];
                    squares[slot] += value * value;
                }
            }
        }

        private boolean fits(int slot) {
            return squares[slot] > 0;
        }

        // The least sum of squares is that of the counts less product * product / square:
        // the counts are the same for all groups, so the greater quotient fits better. A product
        // is 14 * 50 * 2400 * 1400 at most, so that its square is no more than a long holds.
        private int fitsAhead(int g) {
            int ahead = 0;
            for (int other = 0; other < GROUPS; other++) {
                if (other != g && fits(other)) {
                    int order = Fraction.order(products[other] * products[other], squares[other],
                            products[g] * products[g], squares[g]);
                    if (order > 0 || order == 0 && other < g) {
                        ahead++;
                    }
                }
            }
            return ahead;
        }

        private void putLedYear(int slot, Fraction result) {
            result.put(products[slot] * tallies.valueOfYear(slot), squares[slot]);
        }
    }

    /**
     * Flows less doubt times the difference of two pulls, one for each inner crossing, are those
     * that agree; the pulls are what a symmetric table of the doubts asks for. Doubts are small
     * (14), so the whole table can be turned over in whole numbers.
     */
    private static final class Balance {
        // The table of doubts, and beside it what turns it over.
        private final long[][] table;
        private final long[] excesses;
        // Each pull is to be divided by the divisor.
        private final long[] pulls;
        private long divisor;

        Balance() {
            table = new long[INNER][2 * INNER];
            excesses = new long[INNER];
            pulls = new long[CROSSINGS];
            divisor = 1;
        }

        void clear() {
            for (int c = 0; c < INNER; c++) {
                Arrays.fill(table[c], 0);
                table[c][INNER + c] = 1;
            }
            Arrays.fill(pulls, 0);
            divisor = 1;
        }

        void addRoad(int from, int to, int doubt) {
            if (from < INNER) {
                table[from][from] += doubt;
            }
            if (to < INNER) {
                table[to][to] += doubt;
            }
            if (from < INNER && to < INNER) {
                table[from][to] -= doubt;
                table[to][from] -= doubt;
            }
        }

        void setExcess(int c, int excess) {
            excesses[c] = excess;
        }

        // The table is nowhere below 0 as a square form: a 0 in its diagonal stands in a row of
        // zeros, whose crossing agrees by itself when the others of its part of the map do.
        void settle() {
            for (int c = 0; c < INNER; c++) {
                turnOver(c);
            }
            for (int c = 0; c < INNER; c++) {
                pulls[c] = table[c][c] > 0 ? pullAt(c) : 0;
            }
        }

        void putAgreed(int from, int to, int flow, int doubt, Fraction result) {
            result.put(flow * divisor - doubt * (pulls[to] - pulls[from]), divisor);
        }

        // Every number stays a determinant of the table's own (Bareiss), so each division is even.
        private void turnOver(int c) {
            long pivot = table[c][c];
            if (pivot <= 0 || divisor <= 0) {
                return;
            }
            for (int row = 0; row < INNER; row++) {
                if (row != c) {
                    long factor = table[row][c];
                    for (int i = 0; i < 2 * INNER; i++) {
                        table[row][i] = (pivot * table[row][i] - factor * table[c][i]) / divisor;
                    }
                }
            }
            divisor = pivot;
        }

        private long pullAt(int c) {
            long pull = 0;
            for (int i = 0; i < INNER; i++) {
                pull += table[c][INNER + i] * excesses[i];
            }
            return pull;
        }
    }

    /** A fraction in its lowest terms. */
    private static final class Fraction {
        private long upper;
        private long lower;

        Fraction() {
            upper = 0;
            lower = 1;
        }

        void put(long top, long bottom) {
            if (bottom <= 0) {
                return;
            }
            long shared = commonDivisor(top < 0 ? -top : top, bottom);
            upper = top / shared;
            lower = bottom / shared;
        }

        long part(int what) {
            return what == 0 ? upper : lower;
        }

        long roundedHalfUp() {
            return (2 * upper + lower) / (2 * lower);
        }

        /** Above 0, if a / b is the greater, below 0, if c / d is; none of them is below 0. */
        static int order(long a, long b, long c, long d) {
            int sign = 1;
            long leftTop = a;
            long leftBottom = b;
            long rightTop = c;
            long rightBottom = d;
            for (int i = 0; i < EUCLID_STEPS && leftBottom > 0 && rightBottom > 0; i++) {
                long left = leftTop / leftBottom;
                long right = rightTop / rightBottom;
                if (left != right) {
                    return left > right ? sign : -sign;
                }
                // What is left over is compared upside down: products would not fit a long.
                long leftRest = leftTop - left * leftBottom;
                long rightRest = rightTop - right * rightBottom;
                leftTop = leftBottom;
                leftBottom = leftRest;
                rightTop = rightBottom;
                rightBottom = rightRest;
                sign = -sign;
            }
            if (leftBottom == rightBottom) {
                return 0;
            }
            // A bottom of 0 is endless, upside down as it stands here.
            return leftBottom == 0 ? sign : -sign;
        }

        private static long commonDivisor(long a, long b) {
            long greater = a;
            long lesser = b;
            for (int i = 0; i < EUCLID_STEPS && lesser != 0; i++) {
                long rest = greater % lesser;
                greater = lesser;
                lesser = rest;
            }
            return greater == 0 ? 1 : greater;
        }
    }
}

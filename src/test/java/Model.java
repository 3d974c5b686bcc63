import java.math.BigInteger;
import java.util.ArrayList;
import java.util.List;
import java.util.NoSuchElementException;

/** The document said again as slowly and plainly as can be, to be compared with the program. */
public final class Model {
    private record Entry(int road, int day, int time, int count, int[] kinds) { }

    private record Road(int from, int to, int group) { }

    private record Fit(int group, Q misfit) { }

    private final List<Integer> tape = new ArrayList<>();
    private final Road[] roads = new Road[16];
    private final List<Entry> entries = new ArrayList<>();
    private final List<List<Entry>> byRoad = new ArrayList<>();
    private final boolean[][] apart = new boolean[16][84];
    private int now = 0;

    public Model() {
        for (int r = 0; r < 16; r++) {
            byRoad.add(new ArrayList<>());
        }
    }

    public int feed(int a, int b, int c, int d, int e) {
        if (tape.size() + 20 > 200) {
            return -1;
        }
        for (int number : new int[] {a, b, c, d, e}) {
            for (int i = 3; i >= 0; i--) {
                tape.add((number >> (8 * i)) & 0xff);
            }
        }
        return tape.size();
    }

    public boolean end(int n) {
        if (n < 0 || n > tape.size()) {
            return false;
        }
        tape.subList(n, tape.size()).clear();
        return true;
    }

    public boolean road(int r, int from, int to, int group) {
        if (r < 0 || r > 15 || roads[r] != null || from < 0 || from > 7 || to < 0 || to > 7
                || from == to || group < -1 || group > 3) {
            return false;
        }
        roads[r] = new Road(from, to, group);
        return true;
    }

    public int count(int r, int day) {
        List<Integer> bytes = new ArrayList<>(tape);
        tape.clear();
        if (entries.size() >= 600 || noRoad(r) || noDay(day) || bytes.size() != 7) {
            return -1;
        }
        int[] kinds = new int[3];
        int count = -bytes.get(6);
        for (int i = 0; i < 6; i++) {
            kinds[i % 3] += bytes.get(i);
            count += bytes.get(i);
        }
        if (count < 0 || count > 50) {
            return -1;
        }
        enter(new Entry(r, day, now, count, kinds));
        return count;
    }

    public int counts(int r, int from) {
        List<Integer> bytes = new ArrayList<>(tape);
        tape.clear();
        if (noRoad(r) || from < 0 || (long) from + bytes.size() > 84
                || entries.size() + bytes.size() > 600) {
            return -1;
        }
        for (int b : bytes) {
            if (b > 50 && b != 255) {
                return -1;
            }
        }
        for (int i = 0; i < bytes.size(); i++) {
            int b = bytes.get(i);
            enter(new Entry(r, from + i, now, b == 255 ? -1 : b, new int[] {b, 0, 0}));
        }
        return bytes.size();
    }

    public int later() {
        return now == 99 ? -1 : ++now;
    }

    public int works(int r, int from, int to, boolean on) {
        if (noRoad(r) || !(0 <= from && from <= to && to <= 84)) {
            return -1;
        }
        int other = 0;
        for (int d = from; d < to; d++) {
            other += apart[r][d] == on ? 0 : 1;
            apart[r][d] = on;
        }
        return other;
    }

    public int seen(int r, int day, int t) {
        if (noRoad(r) || noDay(day) || t < 0) {
            return -4;
        }
        if (apart[r][day]) {
            return -3;
        }
        Entry held = held(r, day, t);
        return held == null ? -2 : held.count;
    }

    public int kind(int r, int day, int t, int k) {
        return seen(r, day, t) < 0 || k < 0 || k > 2 ? -1 : held(r, day, t).kinds[k];
    }

    public int whole(int r, int t) {
        if (noRoad(r) || t < 0) {
            return -1;
        }
        for (int d = 0; d < 84; d++) {
            if (seen(r, d, t) < 0) {
                return 0;
            }
        }
        return roads[r].group >= 0 ? 1 : 0;
    }

    public int posts(int g, int t) {
        if (g < 0 || g > 3 || t < 0) {
            return -1;
        }
        List<Integer> posts = postsWithout(g, t, -1);
        return total(posts, t) == 0 ? 0 : posts.size();
    }

    public int worth(int g, int day, int t) {
        if (noDay(day) || posts(g, t) <= 0) {
            throw new NoSuchElementException();
        }
        return worthOf(postsWithout(g, t, -1), day, t);
    }

    public int sample(int r, int t) {
        return noRoad(r) || t < 0 ? -1 : sampleDays(r, t).size();
    }

    public int fit(int r, int k, int t) {
        if (noRoad(r) || t < 0) {
            return -1;
        }
        List<Fit> fits = fits(r, t);
        return k < 0 || k >= fits.size() ? -1 : fits.get(k).group;
    }

    public long year(int r, int t, int what) {
        return told(yearOf(r, t), what);
    }

    public long trial(int r, int t, int what) {
        if (whole(r, t) != 1) {
            throw new NoSuchElementException();
        }
        List<Integer> days = List.of(0, 1, 2, 3, 4, 5, 6);
        List<Integer> posts = postsWithout(roads[r].group, t, r);
        if (total(posts, t) == 0) {
            throw new NoSuchElementException();
        }
        return told(led(r, days, posts, t), what);
    }

    public int flow(int r, int t) {
        Q year = yearOf(r, t);
        if (year == null) {
            return -1;
        }
        BigInteger twice = BigInteger.TWO.multiply(year.lower());
        BigInteger rounded = BigInteger.TWO.multiply(year.upper()).add(year.lower()).divide(twice);
        return rounded.compareTo(BigInteger.valueOf(100000)) > 0 ? -1 : rounded.intValueExact();
    }

    public int missing(int c, int t) {
        if (c < 0 || c > 7 || t < 0) {
            throw new NoSuchElementException();
        }
        int sum = 0;
        for (int r = 0; r < 16; r++) {
            int flow = flow(r, t);
            if (flow >= 0) {
                sum += roads[r].to == c ? flow : 0;
                sum -= roads[r].from == c ? flow : 0;
            }
        }
        return sum;
    }

    public long agreed(int r, int t, int what) {
        if (flow(r, t) < 0 || what != 0 && what != 1) {
            throw new NoSuchElementException();
        }
        return told(agreedFlows(t)[r], what);
    }

    public int told(int what) {
        int known = 0;
        for (Road road : roads) {
            known += road == null ? 0 : 1;
        }
        return what == 0 ? known : what == 1 ? entries.size() : what == 2 ? now : what == 3 ? tape.size() : -1;
    }

    private void enter(Entry entry) {
        entries.add(entry);
        byRoad.get(entry.road).add(entry);
    }

    private boolean noRoad(int r) {
        return r < 0 || r > 15 || roads[r] == null;
    }

    private static boolean noDay(int day) {
        return day < 0 || day > 83;
    }

    private static long told(Q fraction, int what) {
        if (fraction == null || what != 0 && what != 1) {
            throw new NoSuchElementException();
        }
        return (what == 0 ? fraction.upper() : fraction.lower()).longValueExact();
    }

    private Entry held(int r, int day, int t) {
        Entry held = null;
        for (Entry e : byRoad.get(r)) {
            if (e.day == day && e.time <= t && (held == null || e.time >= held.time)) {
                held = e;
            }
        }
        return held;
    }

    private List<Integer> postsWithout(int g, int t, int without) {
        List<Integer> posts = new ArrayList<>();
        for (int r = 0; r < 16; r++) {
            if (r != without && whole(r, t) == 1 && roads[r].group == g && posts.size() < 4) {
                posts.add(r);
            }
        }
        return posts;
    }

    private int total(List<Integer> posts, int t) {
        int sum = 0;
        for (int p : posts) {
            for (int d = 0; d < 84; d++) {
                sum += seen(p, d, t);
            }
        }
        return sum;
    }

    private int worthOf(List<Integer> posts, int day, int t) {
        int weekday = 0;
        int month = 0;
        for (int p : posts) {
            for (int d = 0; d < 84; d++) {
                weekday += d % 7 == day % 7 ? seen(p, d, t) : 0;
                month += d / 7 == day / 7 ? seen(p, d, t) : 0;
            }
        }
        return weekday * month;
    }

    private List<Integer> sampleDays(int r, int t) {
        List<Integer> days = new ArrayList<>();
        boolean whole = whole(r, t) == 1;
        for (int d = 0; d < 84 && days.size() < 14 && !whole; d++) {
            if (seen(r, d, t) >= 0) {
                days.add(d);
            }
        }
        return days;
    }

    private Q slope(int r, List<Integer> days, List<Integer> posts, int t) {
        Q product = Q.of(0);
        Q square = Q.of(0);
        for (int d : days) {
            Q w = Q.of(worthOf(posts, d, t));
            product = product.plus(w.times(Q.of(seen(r, d, t))));
            square = square.plus(w.times(w));
        }
        return square.isZero() ? null : product.by(square);
    }

    private Q led(int r, List<Integer> days, List<Integer> posts, int t) {
        Q a = slope(r, days, posts, t);
        if (a == null) {
            return null;
        }
        Q year = Q.of(0);
        for (int d = 0; d < 84; d++) {
            year = year.plus(a.times(Q.of(worthOf(posts, d, t))));
        }
        return year;
    }

    private List<Fit> fits(int r, int t) {
        List<Fit> fits = new ArrayList<>();
        List<Integer> days = sampleDays(r, t);
        for (int g = 0; g < 4; g++) {
            List<Integer> posts = postsWithout(g, t, -1);
            Q a = posts(g, t) > 0 ? slope(r, days, posts, t) : null;
            if (a != null) {
                Q misfit = Q.of(0);
                for (int d : days) {
                    Q miss = Q.of(seen(r, d, t)).minus(a.times(Q.of(worthOf(posts, d, t))));
                    misfit = misfit.plus(miss.times(miss));
                }
                fits.add(new Fit(g, misfit));
            }
        }
        fits.sort((x, y) -> x.misfit.compareTo(y.misfit));
        return fits;
    }

    private Q yearOf(int r, int t) {
        if (noRoad(r) || t < 0) {
            return null;
        }
        if (whole(r, t) == 1) {
            return Q.of(total(List.of(r), t));
        }
        List<Fit> fits = fits(r, t);
        if (fits.isEmpty()) {
            return null;
        }
        return led(r, sampleDays(r, t), postsWithout(fits.get(0).group, t, -1), t);
    }

    /** Solves for the flows and one multiplier for each inner crossing, all at once. */
    private Q[] agreedFlows(int t) {
        int size = 16 + 4;
        Q[][] rows = new Q[size][size + 1];
        for (Q[] row : rows) {
            java.util.Arrays.fill(row, Q.of(0));
        }
        for (int r = 0; r < 16; r++) {
            int flow = flow(r, t);
            if (flow < 0) {
                continue;
            }
            int doubt = whole(r, t) == 1 ? 1 : 15 - sample(r, t);
            rows[r][r] = Q.of(1).by(Q.of(doubt));
            rows[r][size] = Q.of(flow).by(Q.of(doubt));
            for (int c = 0; c < 4; c++) {
                int sign = (roads[r].to == c ? 1 : 0) - (roads[r].from == c ? 1 : 0);
                rows[r][16 + c] = Q.of(sign);
                rows[16 + c][r] = Q.of(sign);
            }
        }
        return Q.solve(rows);
    }

    /** A fraction of any size, in its lowest terms. */
    record Q(BigInteger upper, BigInteger lower) implements Comparable<Q> {
        static Q of(long number) {
            return new Q(BigInteger.valueOf(number), BigInteger.ONE);
        }

        private static Q of(BigInteger top, BigInteger bottom) {
            BigInteger shared = top.gcd(bottom);
            BigInteger signed = bottom.signum() < 0 ? shared.negate() : shared;
            return new Q(top.divide(signed), bottom.divide(signed));
        }

        boolean isZero() {
            return upper.signum() == 0;
        }

        Q plus(Q o) {
            return of(upper.multiply(o.lower).add(o.upper.multiply(lower)), lower.multiply(o.lower));
        }

        Q minus(Q o) {
            return plus(new Q(o.upper.negate(), o.lower));
        }

        Q times(Q o) {
            return of(upper.multiply(o.upper), lower.multiply(o.lower));
        }

        Q by(Q o) {
            return of(upper.multiply(o.lower), lower.multiply(o.upper));
        }

        @Override
        public int compareTo(Q o) {
            return upper.multiply(o.lower).compareTo(o.upper.multiply(lower));
        }

        /** Unknowns that nothing settles are 0. */
        static Q[] solve(Q[][] rows) {
            int size = rows.length;
            int[] rowOf = new int[size];
            int done = 0;
            for (int c = 0; c < size; c++) {
                int pivot = done;
                while (pivot < size && rows[pivot][c].isZero()) {
                    pivot++;
                }
                rowOf[c] = -1;
                if (pivot == size) {
                    continue;
                }
                Q[] swap = rows[pivot];
                rows[pivot] = rows[done];
                rows[done] = swap;
                for (int i = 0; i < size; i++) {
                    if (i != done && !rows[i][c].isZero()) {
                        Q factor = rows[i][c].by(rows[done][c]);
                        for (int j = c; j <= size; j++) {
                            rows[i][j] = rows[i][j].minus(factor.times(rows[done][j]));
                        }
                    }
                }
                rowOf[c] = done++;
            }
            Q[] values = new Q[size];
            for (int c = 0; c < size; c++) {
                values[c] = rowOf[c] < 0 ? of(0) : rows[rowOf[c]][size].by(rows[rowOf[c]][c]);
            }
            return values;
        }
    }
}

import java.util.Arrays;
import java.util.NoSuchElementException;

/** A RoadOffice for tests, with rows of any length told at once, and what was not as due. */
final class Desk {
    /** A call that may throw. */
    interface Call {
        long ask();
    }

    static final int LEAST = Integer.MIN_VALUE;
    static final int MOST = Integer.MAX_VALUE;

    private static int wrong = 0;

    final RoadOffice office = new RoadOffice();

    static void due(String what, long got, long due) {
        if (got != due) {
            wrong++;
            System.out.println(what + " answered " + got + ", due is " + due);
        }
    }

    static void due(String what, boolean got, boolean due) {
        due(what, got ? 1 : 0, due ? 1 : 0);
    }

    /** The call must throw what the document names, and nothing else. */
    static void refused(String what, Call call) {
        try {
            due(what + " without an exception", call.ask(), Long.MIN_VALUE);
        } catch (NoSuchElementException e) {
            due(what + " throws a class above or below", e.getClass() == NoSuchElementException.class, true);
        }
    }

    static void fail(String what) {
        wrong++;
        System.out.println(what);
    }

    /** How many answers were not as due until now. */
    static int wrong() {
        return wrong;
    }

    static void leave() {
        if (wrong > 0) {
            System.out.println(wrong + " answers are not as due");
            System.exit(1);
        }
    }

    static int[] days(int many, int each) {
        int[] row = new int[many];
        Arrays.fill(row, each);
        return row;
    }

    /** A year whose weekdays alone differ. */
    static int[] weekly(int... week) {
        int[] year = new int[84];
        for (int day = 0; day < 84; day++) {
            year[day] = week[day % 7];
        }
        return year;
    }

    /** A year with wagons on one day alone. */
    static int[] onDay(int day, int many) {
        int[] year = new int[84];
        year[day] = many;
        return year;
    }

    /** A post with one wagon in month 0, on day 0, so many on that weekday, and so many in all. */
    static Desk slowStart(int weekday, int total) {
        int[] year = new int[84];
        year[0] = 1;
        int ofWeekday = weekday - 1;
        int others = total - weekday;
        for (int day = 7; day < 84; day++) {
            int each = Math.min(50, day % 7 == 0 ? ofWeekday : others);
            year[day] = each;
            ofWeekday -= day % 7 == 0 ? each : 0;
            others -= day % 7 == 0 ? 0 : each;
        }
        Desk d = new Desk();
        d.post(0, 0, year);
        return d;
    }

    /** The tape holds these bytes alone. */
    void tape(int... row) {
        office.end(0);
        for (int i = 0; i < row.length; i += 20) {
            int[] n = new int[5];
            for (int j = 0; j < 20; j++) {
                n[j / 4] = n[j / 4] << 8 | (i + j < row.length ? row[i + j] : 0);
            }
            office.feed(n[0], n[1], n[2], n[3], n[4]);
        }
        office.end(row.length);
    }

    int counts(int r, int from, int... row) {
        tape(row);
        return office.counts(r, from);
    }

    int count(int r, int day, int... row) {
        tape(row);
        return office.count(r, day);
    }

    /** A road between outer crossings that is counted all the year. */
    void post(int r, int group, int... year) {
        office.road(r, 4, 5, group);
        counts(r, 0, year);
    }

    /** A road without a group, with these counts from day 0 on. */
    void road(int r, int from, int to, int... row) {
        office.road(r, from, to, RoadOffice.NONE);
        counts(r, 0, row);
    }

    void dueYear(int r, int t, long upper, long lower) {
        due("year " + r + ", " + t + ", upper", office.year(r, t, 0), upper);
        due("year " + r + ", " + t + ", lower", office.year(r, t, 1), lower);
    }

    void dueTrial(int r, int t, long upper, long lower) {
        due("trial " + r + ", " + t + ", upper", office.trial(r, t, 0), upper);
        due("trial " + r + ", " + t + ", lower", office.trial(r, t, 1), lower);
    }

    void dueAgreed(int r, long upper, long lower) {
        due("agreed " + r + ", upper", office.agreed(r, 0, 0), upper);
        due("agreed " + r + ", lower", office.agreed(r, 0, 1), lower);
    }

    /** What a look at all that the office holds answers (160 calls). */
    String glance(int t) {
        StringBuilder answers = new StringBuilder();
        for (int what = 0; what < 4; what++) {
            answers.append(office.told(what)).append(' ');
        }
        for (int r = 0; r < 16; r++) {
            answers.append(office.whole(r, t)).append(' ').append(office.sample(r, t)).append(' ');
            answers.append(office.flow(r, t)).append(' ').append(office.fit(r, 0, t)).append(' ');
            answers.append(office.seen(r, 0, t)).append(' ').append(office.seen(r, 1, t)).append(' ');
            answers.append(office.seen(r, 50, t)).append(' ').append(office.seen(r, 83, t)).append(' ');
            answers.append(office.kind(r, 0, t, 0)).append(' ');
        }
        for (int g = 0; g < 4; g++) {
            answers.append(office.posts(g, t)).append(' ');
        }
        for (int c = 0; c < 8; c++) {
            answers.append(office.missing(c, t)).append(' ');
        }
        return answers.toString();
    }
}

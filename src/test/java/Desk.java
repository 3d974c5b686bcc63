import java.util.Arrays;
import java.util.NoSuchElementException;

/** A RoadOffice for tests, with rows of any length told at once, and what was not as due. */
final class Desk {
    /** A call that may throw. */
    interface Call {
        long ask();
    }

    private static int wrong = 0;

    final RoadOffice office = new RoadOffice();

    static void due(String what, long got, long due) {
        if (got != due) {
            wrong++;
            System.out.println(what + " answered " + got + ", due is " + due);
        }
    }

    static void due(String what, boolean got, boolean due) {
        due(what, got ? 1 : 0, due ? 1 : 0);
    }

    /** The call must throw what the document names, and nothing else. */
    static void refused(String what, Call call) {
        try {
            due(what + " without an exception", call.ask(), Long.MIN_VALUE);
        } catch (NoSuchElementException e) {
            due(what + " throws a class above or below", e.getClass() == NoSuchElementException.class, true);
        }
    }

    static void leave() {
        if (wrong > 0) {
            System.out.println(wrong + " answers are not as due");
            System.exit(1);
        }
    }

    /** The tape holds these bytes alone. */
    void tape(int... row) {
        office.end(0);
        for (int i = 0; i < row.length; i += 20) {
            int[] n = new int[5];
            for (int j = 0; j < 20; j++) {
                n[j / 4] = n[j / 4] << 8 | (i + j < row.length ? row[i + j] : 0);
            }
            office.feed(n[0], n[1], n[2], n[3], n[4]);
        }
        office.end(row.length);
    }

    int counts(int r, int from, int... row) {
        tape(row);
        return office.counts(r, from);
    }

    int count(int r, int day, int... row) {
        tape(row);
        return office.count(r, day);
    }

    static int[] days(int many, int each) {
        int[] row = new int[many];
        Arrays.fill(row, each);
        return row;
    }

    /** A road between outer crossings that is counted all the year. */
    void post(int r, int group, int... year) {
        office.road(r, 4, 5, group);
        counts(r, 0, year);
    }

    /** A road without a group, with these counts from day 0 on. */
    void road(int r, int from, int to, int... row) {
        office.road(r, from, to, RoadOffice.NONE);
        counts(r, 0, row);
    }
}

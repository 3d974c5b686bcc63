/** Promises 9 to 21: what is asked of the office. */
final class AnswerPromises {
    private static final int NONE = RoadOffice.NONE;
    private static final int LEAST = Desk.LEAST;
    private static final int MOST = Desk.MOST;
    // Those that townWithAll() lacks.
    private static final int[] NO_ROADS = {-1, 4, 15, 16, LEAST, MOST};
    private static final int[] NO_GROUPS = {-1, 4, LEAST, MOST};
    private static final int[] NO_DAYS = {-1, 84, 85, LEAST, MOST};
    private static final int[] NO_TIMES = {-1, -2, LEAST};
    private static final int[] NO_PARTS = {-1, 2, 3, LEAST, MOST};

    private AnswerPromises() { }

    static void tell(Document document) {
        tellOfDays(document);
        tellOfGroups(document);
        tellOfYears(document);
        tellOfFlows(document);
    }

    private static void tellOfDays(Document document) {
        document.open("Promise 9:");
        document.sentence("COUNT of ROAD r on a DAY AS OF t:", AnswerPromises::seen);
        document.sentence("NONE: not counted;", AnswerPromises::seenNotCounted);
        document.sentence("-2: no ENTRY holds;", AnswerPromises::seenNoEntry);
        document.sentence("-3: it is apart (asked first);", AnswerPromises::seenApart);
        document.sentence("-4: no such ROAD, DAY,", AnswerPromises::seenNowhere);
        document.sentence("or t below 0.", AnswerPromises::seenNever);
        document.open("Promise 10:");
        document.sentence("Of KIND k (0 to 2) in the ENTRY that holds", AnswerPromises::kind);
        document.sentence("(both lanes together, DOUBLES not taken off;", AnswerPromises::kindOfBothLanes);
        document.sentence("of counts(): all in KIND 0).", AnswerPromises::kindOfCounts);
        document.sentence("NONE: seen() is below 0,", AnswerPromises::kindNotSeen);
        document.sentence("or no such KIND.", AnswerPromises::kindUnknown);
    }

    private static void tellOfGroups(Document document) {
        document.open("Promise 11:");
        document.sentence("1 ROAD r is a WHOLE POST AS OF t, 0 not;", AnswerPromises::whole);
        document.sentence("NONE: no such ROAD,", AnswerPromises::wholeNowhere);
        document.sentence("or t below 0.", AnswerPromises::wholeNever);
        document.open("Promise 12:");
        document.sentence("How many POSTS GROUP g has AS OF t", AnswerPromises::posts);
        document.sentence("(0 also, if it has some, but is not there);", AnswerPromises::postsNotThere);
        document.sentence("NONE: no such GROUP,", AnswerPromises::postsNowhere);
        document.sentence("or t below 0.", AnswerPromises::postsNever);
        document.open("Promise 13:");
        document.sentence("WORTH of a DAY in GROUP g AS OF t.", AnswerPromises::worth);
        document.sentence("NoSuchElementException: it is not there,", AnswerPromises::worthNotThere);
        document.sentence("no such DAY.", AnswerPromises::worthOfNoDay);
        document.open("Promise 14:");
        document.sentence("How many DAYS ROAD r's SAMPLE has AS OF t;", AnswerPromises::sample);
        document.sentence("NONE: no such ROAD,", AnswerPromises::sampleNowhere);
        document.sentence("or t below 0.", AnswerPromises::sampleNever);
        document.open("Promise 15:");
        document.sentence("The GROUP that fits ROAD r's SAMPLE k-th best AS OF t", AnswerPromises::fit);
        document.sentence("(0: BEST;", AnswerPromises::fitBest);
        document.sentence("of like ones the lesser one ahead);", AnswerPromises::fitLike);
        document.sentence("NONE: there is none such.", AnswerPromises::fitNone);
    }

    private static void tellOfYears(Document document) {
        document.open("Promise 16:");
        document.sentence("YEAR of ROAD r AS OF t.", AnswerPromises::year);
        document.sentence("NoSuchElementException: it is not told,", AnswerPromises::yearNotTold);
        document.sentence("or another what.", AnswerPromises::yearOfAnotherWhat);
        document.open("Promise 17:");
        document.sentence("TRIAL of ROAD r AS OF t.", AnswerPromises::trial);
        document.sentence("NoSuchElementException: there is none,", AnswerPromises::trialNone);
        document.sentence("or another what.", AnswerPromises::trialOfAnotherWhat);
    }

    private static void tellOfFlows(Document document) {
        document.open("Promise 18:");
        document.sentence("FLOW of ROAD r AS OF t (rounded);", AnswerPromises::flow);
        document.sentence("NONE without one.", AnswerPromises::flowNone);
        document.open("Promise 19:");
        document.sentence("How much more leads to CROSSING c than from it, by FLOWS AS OF t.", AnswerPromises::missing);
        document.sentence("NoSuchElementException: no such CROSSING,", AnswerPromises::missingNowhere);
        document.sentence("or t below 0.", AnswerPromises::missingNever);
        document.open("Promise 20:");
        document.sentence("AGREED FLOW of ROAD r AS OF t.", AnswerPromises::agreed);
        document.sentence("NoSuchElementException: it has no FLOW,", AnswerPromises::agreedNone);
        document.sentence("or another what.", AnswerPromises::agreedOfAnotherWhat);
        document.open("Promise 21:");
        document.sentence("0 ROADS, 1 ENTRIES, 2 NOW, 3 bytes of the tape.", AnswerPromises::told);
        document.sentence("NONE for another what.", AnswerPromises::toldOfAnotherWhat);
    }

    /**
     * Posts 0 and 1 of group 0, road 2 (8 days, one wagon, from 4 to 0) and road 3 (not counted yet,
     * from 0 to 5), at time 0; at time 1, road 3 has 7 days with a wagon each, post 1 a gap.
     */
    private static Desk townWithAll() {
        Desk d = new Desk();
        d.post(0, 0, Desk.days(84, 1));
        d.post(1, 0, Desk.days(84, 1));
        d.road(2, 4, 0, 1, 0, 0, 0, 0, 0, 0, 0);
        d.office.road(3, 0, 5, NONE);
        d.office.later();
        d.counts(3, 7, Desk.days(7, 1));
        d.counts(1, 83, 255);
        return d;
    }

    private static void seen() {
        Desk d = townWithAll();
        Desk.due("a count", d.office.seen(2, 0, 0), 1);
        Desk.due("a count of 0", d.office.seen(2, 7, 0), 0);
        Desk.due("told at 1", d.office.seen(3, 7, 1), 1);
        Desk.due("held at 0", d.office.seen(1, 83, 0), 1);
        Desk.due("at a time to come", d.office.seen(3, 13, 2), 1);
        Desk.due("at the last time of all", d.office.seen(3, 13, MOST), 1);
        d.counts(2, 0, 50);
        Desk.due("the most", d.office.seen(2, 0, 1), 50);
    }

    private static void seenNotCounted() {
        Desk d = townWithAll();
        Desk.due("a gap", d.office.seen(1, 83, 1), -1);
        Desk.due("it is an entry that holds", d.office.seen(1, 83, MOST), -1);
        d.counts(1, 83, 0);
        Desk.due("0 is counted", d.office.seen(1, 83, 1), 0);
    }

    private static void seenNoEntry() {
        Desk d = townWithAll();
        Desk.due("never told", d.office.seen(2, 8, 1), -2);
        Desk.due("not told yet", d.office.seen(3, 7, 0), -2);
        Desk.due("a gap that is not told yet", d.office.seen(3, 6, 0), -2);
    }

    private static void seenApart() {
        Desk d = townWithAll();
        d.office.works(1, 83, 84, true);
        d.office.works(2, 0, 9, true);
        Desk.due("ahead of a gap", d.office.seen(1, 83, 1), -3);
        Desk.due("ahead of a count", d.office.seen(2, 0, 1), -3);
        Desk.due("ahead of no entry", d.office.seen(2, 8, 1), -3);
        Desk.due("at any time", d.office.seen(2, 0, 0), -3);
        Desk.due("but there is no time below 0", d.office.seen(2, 0, -1), -4);
        d.office.works(2, 0, 84, false);
        Desk.due("not any more", d.office.seen(2, 8, 1), -2);
    }

    private static void seenNowhere() {
        Desk d = townWithAll();
        for (int r : NO_ROADS) {
            Desk.due("road " + r, d.office.seen(r, 0, 0), -4);
        }
        for (int day : NO_DAYS) {
            Desk.due("day " + day, d.office.seen(0, day, 0), -4);
            Desk.due("day " + day + " of no road", d.office.seen(-1, day, 0), -4);
        }
    }

    private static void seenNever() {
        Desk d = townWithAll();
        for (int t : NO_TIMES) {
            Desk.due("time " + t, d.office.seen(0, 0, t), -4);
            Desk.due("time " + t + " without an entry", d.office.seen(2, 50, t), -4);
        }
        Desk.due("time 0", d.office.seen(0, 0, 0), 1);
    }

    private static void kind() {
        Desk d = townWithAll();
        d.count(2, 0, 1, 2, 3, 4, 5, 6, 7);
        int[] due = {5, 7, 9};
        for (int k = 0; k < 3; k++) {
            Desk.due("kind " + k, d.office.kind(2, 0, 1, k), due[k]);
            Desk.due("at a time to come, kind " + k, d.office.kind(2, 0, MOST, k), due[k]);
            Desk.due("what held at 0, kind " + k, d.office.kind(2, 0, 0, k), k == 0 ? 1 : 0);
        }
        d.count(2, 0, 1, 0, 0, 0, 0, 0, 0);
        Desk.due("the last of one time", d.office.kind(2, 0, 1, 2), 0);
        d.count(2, 83, 0, 0, 8, 0, 0, 0, 0);
        Desk.due("the last day", d.office.kind(2, 83, 1, 2), 8);
    }

    private static void kindOfBothLanes() {
        Desk d = townWithAll();
        for (int k = 0; k < 3; k++) {
            int[] row = new int[7];
            row[k] = 100;
            row[3 + k] = 120;
            row[6] = 200;
            Desk.due("less doubles", d.count(2, k, row), 20);
            Desk.due("both lanes of kind " + k, d.office.kind(2, k, 1, k), 220);
            Desk.due("another kind", d.office.kind(2, k, 1, (k + 2) % 3), 0);
        }
    }

    private static void kindOfCounts() {
        Desk d = townWithAll();
        d.count(2, 50, 1, 2, 3, 4, 5, 6, 0);
        d.counts(2, 50, 49);
        Desk.due("kind 0", d.office.kind(2, 50, 1, 0), 49);
        Desk.due("kind 1", d.office.kind(2, 50, 1, 1), 0);
        Desk.due("kind 2", d.office.kind(2, 50, 1, 2), 0);
        d.counts(2, 50, 0);
        Desk.due("kind 0 of 0", d.office.kind(2, 50, 1, 0), 0);
    }

    private static void kindNotSeen() {
        Desk d = townWithAll();
        Desk.due("a gap", d.office.kind(1, 83, 1, 0), NONE);
        Desk.due("no entry", d.office.kind(2, 8, 1, 0), NONE);
        Desk.due("not yet", d.office.kind(3, 7, 0, 0), NONE);
        d.office.works(0, 0, 1, true);
        Desk.due("apart", d.office.kind(0, 0, 1, 0), NONE);
        for (int r : NO_ROADS) {
            Desk.due("road " + r, d.office.kind(r, 1, 1, 0), NONE);
        }
        for (int day : NO_DAYS) {
            Desk.due("day " + day, d.office.kind(0, day, 1, 0), NONE);
        }
        for (int t : NO_TIMES) {
            Desk.due("time " + t, d.office.kind(0, 1, t, 0), NONE);
        }
        Desk.due("seen", d.office.kind(0, 1, 1, 0), 1);
    }

    private static void kindUnknown() {
        Desk d = townWithAll();
        for (int k : new int[] {-1, 3, 4, 6, LEAST, MOST}) {
            Desk.due("kind " + k, d.office.kind(0, 0, 0, k), NONE);
        }
        Desk.due("kind 2", d.office.kind(0, 0, 0, 2), 0);
    }

    private static void whole() {
        Desk d = townWithAll();
        d.road(4, 0, 1, Desk.days(84, 1));
        Desk.due("a post", d.office.whole(0, 0), 1);
        Desk.due("a post that has no gap yet", d.office.whole(1, 0), 1);
        Desk.due("a post with a gap", d.office.whole(1, 1), 0);
        Desk.due("a few days", d.office.whole(2, 1), 0);
        Desk.due("no days", d.office.whole(3, 0), 0);
        Desk.due("no post", d.office.whole(4, 1), 0);
        Desk.due("at the last time of all", d.office.whole(0, MOST), 1);
    }

    private static void wholeNowhere() {
        Desk d = townWithAll();
        for (int r : NO_ROADS) {
            Desk.due("road " + r, d.office.whole(r, 0), NONE);
        }
    }

    private static void wholeNever() {
        Desk d = townWithAll();
        for (int t : NO_TIMES) {
            Desk.due("a post, time " + t, d.office.whole(0, t), NONE);
            Desk.due("no post, time " + t, d.office.whole(2, t), NONE);
        }
    }

    private static void posts() {
        Desk d = townWithAll();
        Desk.due("as of 0", d.office.posts(0, 0), 2);
        Desk.due("as of 1", d.office.posts(0, 1), 1);
        Desk.due("as of the last time", d.office.posts(0, MOST), 1);
        Desk.due("as of 0 again", d.office.posts(0, 0), 2);
        Desk.due("none", d.office.posts(3, 0), 0);
        d.post(5, 3, Desk.days(84, 1));
        Desk.due("group 3", d.office.posts(3, 1), 1);
        d.post(6, 0, Desk.days(84, 1));
        d.post(7, 0, Desk.days(84, 1));
        d.post(8, 0, Desk.days(84, 1));
        Desk.due("four at 1", d.office.posts(0, 1), 4);
        d.counts(1, 83, 1);
        Desk.due("no more than four", d.office.posts(0, 1), 4);
    }

    private static void postsNotThere() {
        Desk d = new Desk();
        d.post(0, 1, Desk.days(84, 0));
        d.post(1, 1, Desk.days(84, 0));
        Desk.due("two of zeros", d.office.posts(1, 0), 0);
        d.office.later();
        d.counts(1, 40, 1);
        Desk.due("one wagon", d.office.posts(1, 1), 2);
        Desk.due("not yet", d.office.posts(1, 0), 0);
    }

    private static void postsNowhere() {
        Desk d = townWithAll();
        for (int g : NO_GROUPS) {
            Desk.due("group " + g, d.office.posts(g, 0), NONE);
        }
        Desk.due("group 3 is one", d.office.posts(3, 0), 0);
    }

    private static void postsNever() {
        Desk d = townWithAll();
        for (int t : NO_TIMES) {
            Desk.due("with posts, time " + t, d.office.posts(0, t), NONE);
            Desk.due("without, time " + t, d.office.posts(1, t), NONE);
        }
    }

    private static void worth() {
        Desk d = townWithAll();
        Desk.due("as of 0", d.office.worth(0, 0, 0), 24 * 14);
        Desk.due("as of 1", d.office.worth(0, 83, 1), 12 * 7);
        Desk.due("as of the last time", d.office.worth(0, 83, MOST), 12 * 7);
        Desk.due("as of 0 again", d.office.worth(0, 83, 0), 24 * 14);
        d.post(5, 3, Desk.onDay(83, 50));
        Desk.due("group 3", d.office.worth(3, 83, 1), 2500);
        Desk.due("a day worth 0", d.office.worth(3, 82, 1), 0);
    }

    private static void worthNotThere() {
        Desk d = townWithAll();
        d.post(5, 1, Desk.days(84, 0));
        Desk.refused("no posts", () -> d.office.worth(2, 0, 0));
        Desk.refused("zeros", () -> d.office.worth(1, 0, 1));
        for (int g : NO_GROUPS) {
            Desk.refused("group " + g, () -> d.office.worth(g, 0, 0));
        }
        for (int t : NO_TIMES) {
            Desk.refused("time " + t, () -> d.office.worth(0, 0, t));
        }
        d.office.trial(0, 0, 0);
        Desk.refused("group 4, behind a trial", () -> d.office.worth(4, 0, 0));
        d.office.works(0, 3, 4, true);
        Desk.refused("time -1, behind a change", () -> d.office.worth(0, 0, -1));
        Desk.refused("not there any more", () -> d.office.worth(0, 0, 1));
        Desk.due("but as of 0", d.office.worth(0, 0, 0), 84);
    }

    private static void worthOfNoDay() {
        Desk d = townWithAll();
        for (int day : NO_DAYS) {
            Desk.refused("day " + day, () -> d.office.worth(0, day, 0));
            Desk.refused("day " + day + " of no group", () -> d.office.worth(4, day, 0));
        }
        Desk.due("day 83", d.office.worth(0, 83, 0), 24 * 14);
    }

    private static void sample() {
        Desk d = townWithAll();
        Desk.due("a whole post", d.office.sample(0, 1), 0);
        Desk.due("a post with a gap", d.office.sample(1, 1), 14);
        Desk.due("ahead of the gap", d.office.sample(1, 0), 0);
        Desk.due("8 days", d.office.sample(2, 1), 8);
        Desk.due("no days yet", d.office.sample(3, 0), 0);
        Desk.due("7 days", d.office.sample(3, 1), 7);
        Desk.due("7 days at the last time", d.office.sample(3, MOST), 7);
        d.counts(3, 20, Desk.days(7, 1));
        Desk.due("14 days", d.office.sample(3, 1), 14);
        d.counts(3, 40, 1);
        Desk.due("14 of 15", d.office.sample(3, 1), 14);
    }

    private static void sampleNowhere() {
        Desk d = townWithAll();
        for (int r : NO_ROADS) {
            Desk.due("road " + r, d.office.sample(r, 0), NONE);
        }
    }

    private static void sampleNever() {
        Desk d = townWithAll();
        for (int t : NO_TIMES) {
            Desk.due("a road, time " + t, d.office.sample(2, t), NONE);
            Desk.due("a post, time " + t, d.office.sample(0, t), NONE);
        }
    }

    /** Groups 0 to 3 fit the weeks 1 2 3, 1 1 1, 3 2 1 and 9 8 1, and road 4 is counted 3, 2, 1. */
    private static Desk fourGroups() {
        Desk d = new Desk();
        d.post(0, 0, Desk.weekly(1, 2, 3, 0, 0, 0, 0));
        d.post(1, 1, Desk.weekly(1, 1, 1, 0, 0, 0, 0));
        d.post(2, 2, Desk.weekly(3, 2, 1, 0, 0, 0, 0));
        d.post(3, 3, Desk.weekly(9, 8, 1, 0, 0, 0, 0));
        d.road(4, 0, 1, 3, 2, 1);
        return d;
    }

    private static void fit() {
        Desk d = fourGroups();
        // 14 less 10 * 10 / 14, 6 * 6 / 3, 14 and 44 * 44 / 146
        int[] due = {2, 3, 1, 0};
        for (int k = 0; k < 4; k++) {
            Desk.due("rank " + k, d.office.fit(4, k, 0), due[k]);
        }
        d.office.later();
        d.counts(4, 0, 1, 2, 3);
        // 14 less 14, 6 * 6 / 3, 10 * 10 / 14 and 28 * 28 / 146
        int[] then = {0, 1, 2, 3};
        for (int k = 0; k < 4; k++) {
            Desk.due("rank " + k + " at 1", d.office.fit(4, k, 1), then[k]);
            Desk.due("rank " + k + " at the last time", d.office.fit(4, k, MOST), then[k]);
            Desk.due("rank " + k + " at 0", d.office.fit(4, k, 0), due[k]);
        }
    }

    private static void fitBest() {
        Desk d = fourGroups();
        Desk.due("the best", d.office.fit(4, 0, 0), 2);
        d.office.works(2, 0, 1, true);
        Desk.due("the best without it", d.office.fit(4, 0, 0), 3);
        d.office.works(3, 0, 1, true);
        Desk.due("without both", d.office.fit(4, 0, 0), 1);
        d.office.works(1, 0, 1, true);
        Desk.due("the last", d.office.fit(4, 0, 0), 0);
        d.dueYear(4, 0, 360, 7);
    }

    private static void fitLike() {
        Desk d = fourGroups();
        d.road(5, 0, 1, 7);
        for (int k = 0; k < 4; k++) {
            Desk.due("one day, rank " + k, d.office.fit(5, k, 0), k);
        }
        d.road(6, 0, 1, 2, 0, 2);
        // 8 less 8 * 8 / 14, 4 * 4 / 3, 8 * 8 / 14 and 20 * 20 / 146: like ones are 0 and 2
        int[] due = {1, 0, 2, 3};
        for (int k = 0; k < 4; k++) {
            Desk.due("rank " + k, d.office.fit(6, k, 0), due[k]);
        }
    }

    private static void fitNone() {
        Desk d = townWithAll();
        Desk.due("the best of one", d.office.fit(2, 0, 0), 0);
        for (int k : new int[] {-1, 1, 2, 3, 4, LEAST, MOST}) {
            Desk.due("rank " + k, d.office.fit(2, k, 0), NONE);
        }
        for (int r : NO_ROADS) {
            Desk.due("road " + r, d.office.fit(r, 0, 0), NONE);
        }
        for (int t : NO_TIMES) {
            Desk.due("time " + t, d.office.fit(2, 0, t), NONE);
        }
        Desk.due("a whole post", d.office.fit(0, 0, 0), NONE);
        Desk.due("a post with a gap", d.office.fit(1, 0, 1), 0);
        Desk.due("no sample yet", d.office.fit(3, 0, 0), NONE);
        Desk.due("a sample", d.office.fit(3, 0, 1), 0);
        d.road(5, 0, 1, 50, 50, 50);
        d.office.trial(0, 0, 0);
        Desk.due("what a trial leaves behind is no group", d.office.fit(5, 1, 1), NONE);
    }

    private static void year() {
        Desk d = townWithAll();
        d.dueYear(0, 0, 84, 1);
        d.dueYear(2, 0, 21, 2);
        d.dueYear(3, 1, 84, 1);
        d.dueYear(3, MOST, 84, 1);
        d.dueYear(1, 0, 84, 1);
        d.counts(2, 0, 3);
        d.dueYear(2, 1, 63, 2);
        d.dueYear(2, 0, 21, 2);
    }

    private static void yearNotTold() {
        Desk d = townWithAll();
        for (int r : NO_ROADS) {
            Desk.refused("road " + r, () -> d.office.year(r, 0, 0));
        }
        for (int t : NO_TIMES) {
            Desk.refused("time " + t, () -> d.office.year(0, t, 0));
        }
        Desk.refused("no sample yet", () -> d.office.year(3, 0, 0));
        Desk.refused("nor its lower number", () -> d.office.year(3, 0, 1));
        d.office.works(0, 0, 1, true);
        Desk.refused("no group", () -> d.office.year(2, 1, 0));
        Desk.refused("no group for a post with a gap", () -> d.office.year(1, 1, 0));
        d.dueYear(1, 0, 84, 1);
    }

    private static void yearOfAnotherWhat() {
        Desk d = townWithAll();
        for (int what : NO_PARTS) {
            Desk.refused("a post, what " + what, () -> d.office.year(0, 0, what));
            Desk.refused("a road, what " + what, () -> d.office.year(2, 0, what));
        }
    }

    private static void trial() {
        Desk d = townWithAll();
        d.counts(0, 0, 2, 2, 2, 2, 2, 2, 2);
        d.dueTrial(0, 0, 84, 1);
        d.dueTrial(1, 0, 84, 1);
        d.counts(1, 83, 1);
        d.dueTrial(0, 1, 168, 1);
        d.dueTrial(0, MOST, 168, 1);
        d.dueTrial(0, 0, 84, 1);
        // Month 0 alone has twice as many: days 0 to 6 are worth 13 * 14 each, all days 91 * 91.
        d.dueTrial(1, 1, 91, 2);
    }

    private static void trialNone() {
        Desk d = townWithAll();
        for (int r : NO_ROADS) {
            Desk.refused("road " + r, () -> d.office.trial(r, 0, 0));
        }
        for (int t : NO_TIMES) {
            Desk.refused("time " + t, () -> d.office.trial(0, t, 0));
        }
        Desk.refused("a few days", () -> d.office.trial(2, 0, 0));
        Desk.refused("no days", () -> d.office.trial(3, 0, 0));
        Desk.refused("a post with a gap", () -> d.office.trial(1, 1, 0));
        Desk.refused("a post without others", () -> d.office.trial(0, 1, 0));
        Desk.refused("nor its lower number", () -> d.office.trial(0, 1, 1));
        d.dueTrial(0, 0, 84, 1);
    }

    private static void trialOfAnotherWhat() {
        Desk d = townWithAll();
        for (int what : NO_PARTS) {
            Desk.refused("what " + what, () -> d.office.trial(0, 0, what));
        }
    }

    private static void flow() {
        Desk d = townWithAll();
        Desk.due("a post", d.office.flow(0, 0), 84);
        Desk.due("10.5", d.office.flow(2, 0), 11);
        Desk.due("told at 1", d.office.flow(3, 1), 84);
        Desk.due("at the last time", d.office.flow(3, MOST), 84);
        d.counts(2, 0, 0);
        Desk.due("0", d.office.flow(2, 1), 0);
        Desk.due("10.5 as of 0", d.office.flow(2, 0), 11);
    }

    private static void flowNone() {
        Desk d = townWithAll();
        for (int r : NO_ROADS) {
            Desk.due("road " + r, d.office.flow(r, 0), NONE);
        }
        for (int t : NO_TIMES) {
            Desk.due("time " + t, d.office.flow(0, t), NONE);
        }
        Desk.due("no year yet", d.office.flow(3, 0), NONE);
        Desk great = Desk.slowStart(1, 1000);
        great.road(1, 4, 0, 1);
        Desk.due("a million", great.office.flow(1, 0), NONE);
    }

    private static void missing() {
        Desk d = townWithAll();
        int[] then = {11, 0, 0, 0, -84 - 84 - 11, 84 + 84, 0, 0};
        int[] now = {11 - 84, 0, 0, 0, -84 - 84 - 11, 84 + 84 + 84, 0, 0};
        for (int c = 0; c < 8; c++) {
            Desk.due("crossing " + c + " at 0", d.office.missing(c, 0), then[c]);
            Desk.due("crossing " + c + " at 1", d.office.missing(c, 1), now[c]);
            Desk.due("crossing " + c + " at the last time", d.office.missing(c, MOST), now[c]);
        }
        d = Desk.slowStart(10, 1000);
        for (int r = 1; r < 16; r++) {
            d.road(r, 7, 6, 1);
        }
        Desk.due("fifteen times the most", d.office.missing(6, 0), 1500000);
        Desk.due("and as many less", d.office.missing(7, 0), -1500000);
    }

    private static void missingNowhere() {
        Desk d = townWithAll();
        for (int c : new int[] {-1, 8, 9, LEAST, MOST}) {
            Desk.refused("crossing " + c, () -> d.office.missing(c, 0));
        }
        Desk.due("crossing 7", d.office.missing(7, 0), 0);
    }

    private static void missingNever() {
        Desk d = townWithAll();
        for (int t : NO_TIMES) {
            Desk.refused("time " + t, () -> d.office.missing(0, t));
            Desk.refused("time " + t + " of no crossing", () -> d.office.missing(8, t));
            Desk.refused("time " + t + " of a new object", () -> new RoadOffice().missing(0, t));
        }
    }

    private static void agreed() {
        Desk d = townWithAll();
        d.dueAgreed(0, 84, 1);
        d.dueAgreed(2, 0, 1);
        // At 1: 11 come with doubt 7, 84 go with doubt 8.
        for (int t : new int[] {1, MOST}) {
            Desk.due("upper at " + t, d.office.agreed(2, t, 0), 11 * 15 + 7 * 73);
            Desk.due("lower at " + t, d.office.agreed(2, t, 1), 15);
            Desk.due("upper of the other", d.office.agreed(3, t, 0), 11 * 15 + 7 * 73);
            Desk.due("lower of the other", d.office.agreed(3, t, 1), 15);
        }
        d.dueAgreed(2, 0, 1);
    }

    private static void agreedNone() {
        Desk d = townWithAll();
        for (int r : NO_ROADS) {
            Desk.refused("road " + r, () -> d.office.agreed(r, 0, 0));
        }
        for (int t : NO_TIMES) {
            Desk.refused("time " + t, () -> d.office.agreed(0, t, 0));
        }
        Desk.refused("no year yet", () -> d.office.agreed(3, 0, 0));
        Desk.refused("nor its lower number", () -> d.office.agreed(3, 0, 1));
        Desk great = Desk.slowStart(1, 1000);
        great.road(1, 4, 5, 1);
        Desk.refused("a million", () -> great.office.agreed(1, 0, 0));
        great.dueAgreed(0, 1000, 1);
    }

    private static void agreedOfAnotherWhat() {
        Desk d = townWithAll();
        for (int what : NO_PARTS) {
            Desk.refused("what " + what, () -> d.office.agreed(0, 0, what));
        }
    }

    private static void told() {
        Desk d = townWithAll();
        d.tape(1, 2, 3);
        int[] due = {4, 84 + 84 + 8 + 7 + 1, 1, 3};
        for (int what = 0; what < 4; what++) {
            Desk.due("what " + what, d.office.told(what), due[what]);
        }
    }

    private static void toldOfAnotherWhat() {
        Desk d = townWithAll();
        for (int what : new int[] {-1, 4, 5, LEAST, MOST}) {
            Desk.due("what " + what, d.office.told(what), NONE);
        }
    }
}

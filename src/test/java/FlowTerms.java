/** Part 3 of the terms: flows, doubts, agreed flows, how fractions are told, and refused calls. */
final class FlowTerms {
    private static final int NONE = RoadOffice.NONE;

    private FlowTerms() { }

    static void tell(Document document) {
        document.open("Terms");
        document.sentence("FLOWS: a ROAD whose YEAR is told", FlowTerms::yearIsTold);
        document.sentence("and, rounded (a half up),", FlowTerms::halfUp);
        document.sentence("is 100000 at most has that as its FLOW;", FlowTerms::atMost);
        document.sentence("DOUBT: 1 of a WHOLE POST,", FlowTerms::doubtOfAPost);
        document.sentence("else 15 less the DAYS of its SAMPLE.", FlowTerms::doubtOfASample);
        document.sentence("Other ROADS are as if they were not there.", FlowTerms::otherRoads);
        document.sentence("AGREED FLOWS: numbers (fractions, below 0, too)", FlowTerms::fractionsBelowZero);
        document.sentence("with which at each INNER CROSSING those that lead to it are together as many as those that"
                + " lead from it,", FlowTerms::asManyComeAsGo);
        document.sentence("and the sum of the squares of their differences from FLOWS, each divided by its DOUBT,"
                + " is least.", FlowTerms::leastChange);
        document.sentence("A fraction is told by two numbers without a divisor in common: its upper one (what 0),"
                + " and its lower one (1),", FlowTerms::lowestTerms);
        document.sentence("which is 1 or more;", FlowTerms::lowerIsPositive);
        document.sentence("0 is 0 by 1.", FlowTerms::zeroByOne);
        document.sentence("A call that throws changes nothing.", FlowTerms::throwsChangeNothing);
    }

    /** Road 0 is a post between outer crossings with one wagon a day. */
    private static Desk evenGroup() {
        Desk d = new Desk();
        d.post(0, 0, Desk.days(84, 1));
        return d;
    }

    private static void yearIsTold() {
        Desk d = evenGroup();
        d.road(1, 4, 0);
        Desk.due("no year, no flow", d.office.flow(1, 0), NONE);
        d.counts(1, 0, 0);
        Desk.due("a year of 0 is a flow", d.office.flow(1, 0), 0);
        d.counts(1, 0, 1);
        Desk.due("a year", d.office.flow(1, 0), 84);
        Desk.due("of a post", d.office.flow(0, 0), 84);
        d.office.works(0, 0, 1, true);
        Desk.due("the group is gone", d.office.flow(1, 0), NONE);
        Desk.due("and so is the post", d.office.flow(0, 0), NONE);
    }

    private static void halfUp() {
        // The sums of the samples times 84, by their days.
        int[][] sumsAndDays = {{1, 8, 11}, {3, 8, 32}, {5, 8, 53}, {1, 13, 6}, {5, 13, 32}, {1, 11, 8}, {4, 11, 31},
            {5, 11, 38}, {0, 8, 0}, {1, 14, 6}, {8, 9, 75}, {1, 9, 9}};
        for (int[] row : sumsAndDays) {
            Desk d = evenGroup();
            int[] sample = new int[row[1]];
            sample[0] = row[0];
            d.road(1, 0, 1, sample);
            Desk.due(row[0] + " times 84 by " + row[1], d.office.flow(1, 0), row[2]);
        }
    }

    private static void atMost() {
        Desk d = Desk.slowStart(10, 1000);
        d.road(1, 4, 0, 1);
        d.dueYear(1, 0, 100000, 1);
        Desk.due("100000", d.office.flow(1, 0), 100000);
        d = Desk.slowStart(251, 1002);
        d.road(1, 4, 0, 25);
        d.dueYear(1, 0, 25100100, 251);
        Desk.due("100000.4", d.office.flow(1, 0), 100000);
        d = Desk.slowStart(1, 1000);
        d.road(1, 4, 0, 50);
        d.dueYear(1, 0, 50000000, 1);
        Desk.due("50000000", d.office.flow(1, 0), NONE);
        d = ofHalfTooMany();
        d.dueYear(1, 0, 200001, 2);
        Desk.due("100000.5, a half up", d.office.flow(1, 0), NONE);
    }

    /**
     * Weekdays 0 to 5 with 409 each and 4 in month 0: the sample's 163 are worth 163 * 409 by
     * 4 * 6 * 409 * 409 times 2454 * 2454.
     */
    private static Desk ofHalfTooMany() {
        int[] year = new int[84];
        for (int weekday = 0; weekday < 6; weekday++) {
            year[weekday] = weekday < 4 ? 1 : 0;
            int left = 409 - year[weekday];
            for (int day = weekday + 7; day < 84; day += 7) {
                year[day] = Math.min(50, left);
                left -= year[day];
            }
        }
        Desk d = new Desk();
        d.post(0, 0, year);
        d.road(1, 4, 0, 27, 27, 27, 27, 27, 28);
        return d;
    }

    /** A post leads to a crossing, and a road of one day, with doubt 14, from it. */
    private static void doubtOfAPost() {
        Desk d = new Desk();
        d.office.road(0, 4, 0, 0);
        d.counts(0, 0, Desk.days(84, 1));
        d.road(1, 0, 5, 0);
        d.dueAgreed(0, 392, 5);
        d.dueAgreed(1, 392, 5);
        d = new Desk();
        for (int r = 0; r < 4; r++) {
            d.post(r, 0, Desk.days(84, 1));
        }
        d.office.road(4, 4, 0, 0);
        d.counts(4, 0, Desk.days(84, 1));
        d.road(5, 0, 5, 0);
        d.dueAgreed(4, 392, 5);
    }

    private static void doubtOfASample() {
        for (int n : new int[] {1, 2, 3, 4, 5, 6, 7, 8, 9, 10, 11, 12, 13, 14, 15, 84}) {
            Desk d = new Desk();
            d.office.road(0, 4, 3, 0);
            d.counts(0, 0, Desk.days(84, 1));
            d.road(1, 3, 5, Desk.days(n, 0));
            int doubt = 15 - Math.min(n, 14);
            // Of 84 too many each takes its part by doubt.
            Desk.due("sample of " + n, d.office.agreed(1, 0, 0) * (doubt + 1), 84L * doubt * d.office.agreed(1, 0, 1));
        }
        Desk d = new Desk();
        d.office.road(0, 4, 3, 0);
        d.counts(0, 0, Desk.days(84, 1));
        d.office.road(1, 3, 5, 0);
        d.counts(1, 0, Desk.days(83, 0));
        d.dueAgreed(1, 42, 1);
        d.office.works(1, 0, 71, true);
        d.dueAgreed(1, 63, 1);
    }

    private static void otherRoads() {
        Desk d = Desk.slowStart(1, 1000);
        d.road(1, 4, 0, 50);
        d.road(2, 0, 5);
        d.road(3, 0, 6, 0);
        Desk.due("missing", d.office.missing(0, 0), 0);
        d.dueAgreed(3, 0, 1);
        Desk.refused("too great a year", () -> d.office.agreed(1, 0, 0));
        Desk.refused("no year", () -> d.office.agreed(2, 0, 0));
        Desk gap = evenGroup();
        gap.road(1, 4, 1, 1);
        gap.road(2, 1, 2);
        gap.road(3, 2, 5, 1);
        gap.dueAgreed(1, 0, 1);
        gap.dueAgreed(3, 0, 1);
        gap.counts(2, 0, 1);
        gap.dueAgreed(1, 84, 1);
        gap.dueAgreed(2, 84, 1);
    }

    private static void fractionsBelowZero() {
        Desk d = evenGroup();
        d.road(1, 4, 0, 0);
        d.road(2, 6, 0, Desk.days(14, 1));
        d.road(3, 0, 5, Desk.days(14, 0));
        // 84 too many come, doubts 14, 1 and 1: 5.25 for each of doubt.
        d.dueAgreed(1, -147, 2);
        d.dueAgreed(2, 315, 4);
        d.dueAgreed(3, 21, 4);
    }

    private static void asManyComeAsGo() {
        Desk d = evenGroup();
        for (int c = 0; c < 4; c++) {
            d.road(4 + c, 4 + c, c, Desk.days(1 + c, 1 + c));
            d.road(8 + c, c, (c + 1) % 4, Desk.days(9 - c, 9 - 2 * c));
            d.road(12 + c, (c + 2) % 4, 7 - c, Desk.days(14 - 3 * c, 10));
        }
        for (int c = 0; c < 4; c++) {
            Model.Q sum = Model.Q.of(0);
            for (int r : new int[] {4 + c, 8 + (c + 3) % 4, 8 + c, 12 + (c + 2) % 4}) {
                Model.Q share = Model.Q.of(d.office.agreed(r, 0, 0)).by(Model.Q.of(d.office.agreed(r, 0, 1)));
                boolean comes = r == 4 + c || r == 8 + (c + 3) % 4;
                sum = comes ? sum.plus(share) : sum.minus(share);
            }
            Desk.due("crossing " + c, sum.isZero(), true);
        }
        deadEnds();
    }

    private static void deadEnds() {
        Desk d = evenGroup();
        d.road(1, 4, 2, 50);
        d.dueAgreed(1, 0, 1);
        d.road(2, 6, 7, 50);
        d.dueAgreed(2, 4200, 1);
        d = evenGroup();
        d.road(1, 6, 3, Desk.days(14, 3));
        d.dueAgreed(1, 0, 1);
        // None comes to crossing 0, so that none goes on from crossing 1.
        d = evenGroup();
        d.road(1, 0, 1, Desk.days(14, 1));
        d.road(2, 1, 5, Desk.days(14, 2));
        d.dueAgreed(1, 0, 1);
        d.dueAgreed(2, 0, 1);
    }

    private static void leastChange() {
        Desk d = evenGroup();
        d.road(1, 4, 0, Desk.days(14, 1));
        d.road(2, 5, 0, Desk.days(14, 1));
        d.road(3, 0, 6, Desk.days(14, 1));
        // Like doubts: 84 too many, a third of them each.
        d.dueAgreed(1, 56, 1);
        d.dueAgreed(2, 56, 1);
        d.dueAgreed(3, 112, 1);
        d = evenGroup();
        d.road(1, 4, 0, Desk.days(14, 1));
        d.road(2, 0, 1, Desk.days(14, 2));
        d.road(3, 1, 5, Desk.days(14, 3));
        for (int r = 1; r < 4; r++) {
            d.dueAgreed(r, 168, 1);
        }
        // Nothing leads out: 84 with doubt 14 and 168 with doubt 1 meet at 84 + 14 * 84 by 15.
        d = evenGroup();
        d.road(1, 2, 3, 1);
        d.road(2, 3, 2, Desk.days(14, 2));
        d.dueAgreed(1, 812, 5);
        d.dueAgreed(2, 812, 5);
        // As many come as go: nothing is changed.
        d = evenGroup();
        d.road(1, 4, 0, 3);
        d.road(2, 0, 5, Desk.days(9, 1));
        d.road(3, 0, 6, Desk.days(3, 2));
        d.dueAgreed(1, 252, 1);
        d.dueAgreed(2, 84, 1);
        d.dueAgreed(3, 168, 1);
    }

    private static void lowestTerms() {
        int[][] years = {{1, 8, 21, 2}, {1, 11, 84, 11}, {1, 9, 28, 3}, {3, 9, 28, 1}, {7, 14, 42, 1}, {50, 13, 4200, 13},
            {22, 11, 168, 1}, {5, 10, 42, 1}, {5, 12, 35, 1}};
        for (int[] row : years) {
            Desk d = evenGroup();
            int[] sample = new int[row[1]];
            sample[0] = row[0];
            d.road(1, 0, 1, sample);
            d.dueYear(1, 0, row[2], row[3]);
        }
        Desk d = new Desk();
        d.post(0, 0, Desk.weekly(1, 2, 3, 4, 5, 6, 7));
        d.post(1, 0, Desk.days(84, 1));
        d.dueTrial(1, 0, 336, 5);
        d.office.road(2, 4, 0, 0);
        d.counts(2, 0, Desk.weekly(2, 2, 2, 2, 2, 2, 2));
        d.road(3, 0, 5, Desk.days(3, 0));
        d.dueAgreed(2, 2016, 13);
    }

    private static void lowerIsPositive() {
        Desk d = evenGroup();
        d.road(1, 0, 4, 0);
        d.road(2, 0, 5, Desk.days(2, 2));
        d.road(3, 6, 0, Desk.days(13, 1));
        // 84 too many go, doubts 14, 13 and 2.
        d.dueAgreed(1, -1176, 29);
        d.dueAgreed(2, 168 * 29 - 13 * 84, 29);
        d.dueAgreed(3, 84 * 29 + 2 * 84, 29);
        // One wagon too many comes, doubts 1 and 1.
        d = new Desk();
        d.office.road(0, 4, 0, 0);
        d.counts(0, 0, Desk.onDay(0, 1));
        d.road(1, 5, 0, Desk.days(14, 0));
        d.dueAgreed(0, 1, 2);
        d.dueAgreed(1, -1, 2);
    }

    private static void zeroByOne() {
        Desk d = new Desk();
        d.post(0, 0, Desk.days(84, 0));
        d.post(1, 0, Desk.days(84, 7));
        d.road(2, 4, 0, Desk.days(5, 0));
        d.road(3, 4, 1, 50);
        d.dueYear(0, 0, 0, 1);
        d.dueTrial(0, 0, 0, 1);
        d.dueYear(2, 0, 0, 1);
        d.dueAgreed(0, 0, 1);
        d.dueAgreed(2, 0, 1);
        d.dueAgreed(3, 0, 1);
    }

    private static void throwsChangeNothing() {
        Desk d = evenGroup();
        d.road(1, 4, 0, 3, 4);
        d.road(2, 0, 5);
        d.office.works(1, 1, 2, true);
        d.office.later();
        d.counts(1, 50, 6);
        d.tape(41, 42, 43);
        String before = d.glance(1);
        Desk.refused("worth", () -> d.office.worth(3, 0, 1));
        Desk.refused("worth of no day", () -> d.office.worth(0, 84, 1));
        Desk.refused("year", () -> d.office.year(2, 1, 0));
        Desk.refused("year of another what", () -> d.office.year(1, 1, 2));
        Desk.refused("trial", () -> d.office.trial(0, 1, 0));
        Desk.refused("trial of another what", () -> d.office.trial(0, 1, -1));
        Desk.refused("missing", () -> d.office.missing(8, 1));
        Desk.refused("missing of no time", () -> d.office.missing(0, -1));
        Desk.refused("agreed", () -> d.office.agreed(2, 1, 0));
        Desk.refused("agreed of another what", () -> d.office.agreed(1, 1, 2));
        Desk.due("all that can be asked", d.glance(1).equals(before), true);
        Desk.due("the tape's bytes", d.office.counts(2, 0), 3);
        for (int day = 0; day < 3; day++) {
            Desk.due("byte " + day, d.office.seen(2, day, 1), 41 + day);
        }
    }
}

/** Part 1 of the terms: the year, the map, entries, works, and what holds AS OF a time. */
final class CountTerms {
    private static final int NONE = RoadOffice.NONE;

    private CountTerms() { }

    static void tell(Document document) {
        document.open("What it is");
        document.sentence("An object is used for at most 512 calls after it has been made", CountTerms::lastCall);
        document.open("Terms");
        document.sentence("THE YEAR has 84 DAYS", CountTerms::daysOfTheYear);
        document.sentence("12 MONTHS of 7 DAYS: DAY d is weekday d MOD 7 of MONTH d DIV 7.", CountTerms::months);
        document.sentence("CROSSINGS 0 .. 7;", CountTerms::crossings);
        document.sentence("of these 0 .. 3 are INNER.", CountTerms::innerCrossings);
        document.sentence("ROADS 0 .. 15 lead from one CROSSING to another one;", CountTerms::roads);
        document.sentence("each has a GROUP 0 .. 3, as a POST, or none.", CountTerms::groups);
        document.sentence("NOW is 0 at first.", CountTerms::nowAtFirst);
        document.sentence("An ENTRY (600 at most)", CountTerms::entriesAtMost);
        document.sentence("tells of a ROAD and DAY, at NOW:", CountTerms::whereAndWhen);
        document.sentence("three KINDS of wagons in each of two lanes, and how many of these are DOUBLES, seen in both:"
                + " its COUNT is the sum less DOUBLES,", CountTerms::sumLessDoubles);
        document.sentence("0 to 50;", CountTerms::leastAndMostCount);
        document.sentence("or that it was not counted.", CountTerms::notCounted);
        document.sentence("WORKS of a ROAD: DAYS from .. to - 1, that are apart.", CountTerms::works);
        document.sentence("AS OF a time T: of each ROAD and DAY the latest ENTRY told at T or ahead of it holds",
                CountTerms::latestHolds);
        document.sentence("(of one NOW the last one);", CountTerms::lastOfOneNow);
        document.sentence("a DAY is SEEN, if that is a COUNT, and the DAY is not apart.", CountTerms::seenDays);
    }

    private static void lastCall() {
        RoadOffice x = new RoadOffice();
        x.road(0, 4, 0, 0);
        for (int i = 0; i < 5; i++) {
            x.feed(0x01010101, 0x01010101, 0x01010101, 0x01010101, 0x01010101);
        }
        x.end(84);
        x.counts(0, 0);
        for (int i = 0; i < 502; i++) {
            Desk.due("works, call " + (9 + i), x.works(0, 83, 84, i % 2 == 0), 1);
        }
        Desk.due("later, call 511", x.later(), 1);
        Desk.due("year, call 512", x.year(0, 1, 0), 84);
    }

    private static void daysOfTheYear() {
        Desk d = new Desk();
        d.road(0, 0, 1, Desk.days(84, 1));
        Desk.due("day 0", d.office.seen(0, 0, 0), 1);
        Desk.due("day 83", d.office.seen(0, 83, 0), 1);
        Desk.due("no day 84", d.office.seen(0, 84, 0), -4);
        Desk.due("no day -1", d.office.seen(0, -1, 0), -4);
        Desk.due("84 were told", d.office.told(1), 84);
        Desk.due("84 can be apart", d.office.works(0, 0, 84, true), 84);
    }

    /** One wagon in a year: its day alone has both its weekday and its month. */
    private static void months() {
        for (int day = 0; day < 84; day++) {
            Desk d = new Desk();
            d.post(0, 0, Desk.onDay(day, 1));
            for (int other = 0; other < 84; other++) {
                Desk.due("day " + other + " by day " + day, d.office.worth(0, other, 0), other == day ? 1 : 0);
            }
        }
        Desk d = new Desk();
        d.post(0, 0, Desk.weekly(1, 0, 0, 0, 0, 0, 3));
        Desk.due("weekday 6 of month 0", d.office.worth(0, 6, 0), 36 * 4);
        Desk.due("weekday 0 of month 1", d.office.worth(0, 7, 0), 12 * 4);
        Desk.due("weekday 0 of month 11", d.office.worth(0, 77, 0), 12 * 4);
        Desk.due("weekday 6 of month 11", d.office.worth(0, 83, 0), 36 * 4);
        Desk.due("weekday 5 of month 11", d.office.worth(0, 82, 0), 0);
    }

    private static boolean isCrossing(int c) {
        return c >= 0 && c <= 7;
    }

    private static void crossings() {
        for (int from = -2; from < 10; from++) {
            for (int to = -2; to < 10; to++) {
                boolean due = isCrossing(from) && isCrossing(to) && from != to;
                Desk.due("road from " + from + " to " + to, new RoadOffice().road(0, from, to, NONE), due);
            }
        }
        for (int c = -2; c < 10; c++) {
            int crossing = c;
            if (isCrossing(c)) {
                Desk.due("crossing " + c, new RoadOffice().missing(c, 0), 0);
            } else {
                Desk.refused("crossing " + c, () -> new RoadOffice().missing(crossing, 0));
            }
        }
    }

    private static void innerCrossings() {
        for (int c = 0; c < 8; c++) {
            Desk d = new Desk();
            d.office.road(0, c == 4 ? 5 : 4, c, 0);
            d.counts(0, 0, Desk.days(84, 1));
            d.road(1, c, c == 7 ? 6 : 7, Desk.days(14, 0));
            d.dueAgreed(0, c <= 3 ? 42 : 84, 1);
            d.dueAgreed(1, c <= 3 ? 42 : 0, 1);
        }
    }

    private static void roads() {
        RoadOffice x = new RoadOffice();
        for (int r = -2; r < 18; r++) {
            Desk.due("road " + r, x.road(r, 7, 0, NONE), r >= 0 && r <= 15);
        }
        Desk.due("all roads", x.told(0), 16);
        for (int c = 0; c < 8; c++) {
            Desk.due("not to another one: " + c, new RoadOffice().road(0, c, c, NONE), false);
        }
    }

    private static void groups() {
        for (int g = -3; g < 6; g++) {
            Desk d = new Desk();
            Desk.due("group " + g, d.office.road(0, 0, 1, g), g >= -1 && g <= 3);
            d.counts(0, 0, Desk.days(84, 1));
            Desk.due("a post in group " + g, d.office.whole(0, 0), g < -1 || g > 3 ? NONE : g == NONE ? 0 : 1);
            for (int other = 0; other < 4; other++) {
                Desk.due("posts of " + other + " by group " + g, d.office.posts(other, 0), other == g ? 1 : 0);
            }
        }
    }

    private static void nowAtFirst() {
        Desk d = new Desk();
        Desk.due("now", d.office.told(2), 0);
        d.road(0, 0, 1, 5);
        Desk.due("told at 0", d.office.seen(0, 0, 0), 5);
        Desk.due("1 comes next", d.office.later(), 1);
    }

    private static void entriesAtMost() {
        Desk d = new Desk();
        d.office.road(0, 0, 1, NONE);
        for (int i = 1; i <= 7; i++) {
            Desk.due("the same days again", d.counts(0, 0, Desk.days(84, i)), 84);
            Desk.due("each is one more", d.office.told(1), 84 * i);
        }
        Desk.due("to the 599th", d.counts(0, 0, Desk.days(11, 9)), 11);
        Desk.due("the 600th", d.count(0, 83, 1, 0, 0, 0, 0, 0, 0), 1);
        Desk.due("entries", d.office.told(1), 600);
        d.office.later();
        Desk.due("the 601st by count", d.count(0, 83, 2, 0, 0, 0, 0, 0, 0), NONE);
        Desk.due("the 601st by counts", d.counts(0, 83, 3), NONE);
        Desk.due("no more", d.office.told(1), 600);
        Desk.due("the 600th holds", d.office.seen(0, 83, 1), 1);
        Desk.due("the 599th too", d.office.seen(0, 10, 1), 9);
        Desk.due("and the 588th", d.office.seen(0, 82, 1), 7);
    }

    private static void whereAndWhen() {
        Desk d = new Desk();
        for (int r = 0; r < 3; r++) {
            d.office.road(r, 0, 1, NONE);
        }
        d.office.later();
        d.counts(1, 41, 7);
        d.count(1, 43, 0, 0, 8, 0, 0, 0, 0);
        for (int r = 0; r < 3; r++) {
            for (int day = 40; day < 45; day++) {
                int due = r == 1 && day == 41 ? 7 : r == 1 && day == 43 ? 8 : -2;
                Desk.due("road " + r + " day " + day, d.office.seen(r, day, 1), due);
                Desk.due("ahead of it, road " + r + " day " + day, d.office.seen(r, day, 0), -2);
            }
        }
    }

    private static void sumLessDoubles() {
        Desk d = new Desk();
        d.office.road(0, 0, 1, NONE);
        for (int i = 0; i < 6; i++) {
            int[] row = new int[7];
            row[i] = 9 + i;
            Desk.due("number " + i, d.count(0, i, row), 9 + i);
            row[6] = 4;
            Desk.due("number " + i + " less doubles", d.count(0, i, row), 5 + i);
            Desk.due("its kind", d.office.kind(0, i, 0, i % 3), 9 + i);
            Desk.due("no other kind", d.office.kind(0, i, 0, (i + 1) % 3), 0);
        }
        Desk.due("all of them", d.count(0, 6, 1, 2, 3, 4, 5, 6, 7), 14);
        Desk.due("as many doubles as wagons", d.count(0, 7, 1, 2, 3, 4, 5, 6, 21), 0);
    }

    private static void leastAndMostCount() {
        Desk d = new Desk();
        d.office.road(0, 0, 1, NONE);
        Desk.due("0", d.count(0, 0, 0, 0, 0, 0, 0, 0, 0), 0);
        Desk.due("1 below 0", d.count(0, 0, 0, 0, 0, 0, 0, 0, 1), NONE);
        Desk.due("255 below 0", d.count(0, 0, 0, 0, 0, 0, 0, 0, 255), NONE);
        Desk.due("50", d.count(0, 1, 10, 10, 10, 10, 5, 5, 0), 50);
        Desk.due("51", d.count(0, 1, 10, 10, 10, 10, 5, 6, 0), NONE);
        Desk.due("305 less 255", d.count(0, 2, 255, 50, 0, 0, 0, 0, 255), 50);
        Desk.due("306 less 255", d.count(0, 2, 255, 51, 0, 0, 0, 0, 255), NONE);
        Desk.due("256 less 0, which ends as 0 in a byte", d.count(0, 2, 128, 128, 0, 0, 0, 0, 0), NONE);
        Desk.due("1530 less 255", d.count(0, 2, 255, 255, 255, 255, 255, 255, 255), NONE);
        Desk.due("50 by counts", d.counts(0, 3, 50), 1);
        Desk.due("51 by counts", d.counts(0, 3, 51), NONE);
        Desk.due("0 by counts", d.counts(0, 4, 0), 1);
        int[] due = {0, 50, 50, 50, 0};
        for (int day = 0; day < due.length; day++) {
            Desk.due("what holds on day " + day, d.office.seen(0, day, 0), due[day]);
        }
    }

    private static void notCounted() {
        Desk d = new Desk();
        d.road(0, 0, 1, 255);
        Desk.due("not counted", d.office.seen(0, 0, 0), NONE);
        Desk.due("an entry all the same", d.office.told(1), 1);
        d.office.later();
        d.counts(0, 0, 7);
        d.office.later();
        d.counts(0, 0, 255);
        Desk.due("counted later", d.office.seen(0, 0, 1), 7);
        Desk.due("and then it was not", d.office.seen(0, 0, 2), NONE);
    }

    private static void works() {
        Desk d = new Desk();
        d.road(0, 0, 1, Desk.days(84, 1));
        d.road(1, 0, 1, Desk.days(84, 1));
        d.office.works(0, 20, 30, true);
        for (int day = 0; day < 84; day++) {
            Desk.due("day " + day, d.office.seen(0, day, 0), day >= 20 && day <= 29 ? -3 : 1);
            Desk.due("of another road, day " + day, d.office.seen(1, day, 0), 1);
        }
        Desk.due("at every time", d.office.seen(0, 20, Desk.MOST), -3);
    }

    private static void latestHolds() {
        Desk d = new Desk();
        d.office.road(0, 0, 1, NONE);
        d.office.road(1, 0, 1, NONE);
        d.office.later();
        d.counts(0, 10, 1);
        d.office.later();
        d.counts(0, 11, 40);
        d.counts(1, 10, 41);
        d.office.later();
        d.counts(0, 10, 3);
        d.office.later();
        int[] due = {-2, 1, 1, 3, 3, 3};
        for (int t = 0; t < due.length; t++) {
            Desk.due("as of " + t, d.office.seen(0, 10, t), due[t]);
        }
        Desk.due("as of the last time there is", d.office.seen(0, 10, Desk.MOST), 3);
        d.counts(0, 10, 4);
        Desk.due("told again, as of 3", d.office.seen(0, 10, 3), 3);
        Desk.due("told again, as of 4", d.office.seen(0, 10, 4), 4);
    }

    private static void lastOfOneNow() {
        Desk d = new Desk();
        d.road(0, 0, 1, 5);
        d.counts(0, 0, 9);
        d.counts(0, 0, 2);
        Desk.due("the last of three", d.office.seen(0, 0, 0), 2);
        d.count(0, 0, 1, 1, 1, 0, 0, 0, 0);
        Desk.due("the last is a count of kinds", d.office.seen(0, 0, 0), 3);
        d.counts(0, 0, 255);
        Desk.due("the last is not counted", d.office.seen(0, 0, 0), NONE);
        d.office.later();
        Desk.due("it goes on to hold", d.office.seen(0, 0, 1), NONE);
        d.counts(0, 0, 7);
        d.counts(0, 0, 6);
        Desk.due("the last of the next time", d.office.seen(0, 0, 1), 6);
        Desk.due("the last of the first time", d.office.seen(0, 0, 0), NONE);
    }

    /** The sample tells how many days are seen. */
    private static void seenDays() {
        Desk d = new Desk();
        d.road(0, 0, 1);
        Desk.due("no entry", d.office.sample(0, 0), 0);
        d.counts(0, 3, 255);
        Desk.due("not counted", d.office.sample(0, 0), 0);
        d.counts(0, 4, 0);
        Desk.due("0 is a count", d.office.sample(0, 0), 1);
        d.count(0, 83, 0, 0, 0, 9, 0, 0, 9);
        Desk.due("0 less doubles too", d.office.sample(0, 0), 2);
        d.office.works(0, 4, 5, true);
        Desk.due("apart", d.office.sample(0, 0), 1);
        d.counts(0, 4, 8);
        Desk.due("counted while it is apart", d.office.sample(0, 0), 1);
        d.office.works(0, 0, 84, false);
        Desk.due("not apart any more", d.office.sample(0, 0), 2);
        d.counts(0, 4, 255);
        Desk.due("not counted, as it became known", d.office.sample(0, 0), 1);
    }
}

/** Part 2 of the terms: whole posts, groups, worths, samples, fits, years and trials. */
final class GroupTerms {
    private static final int NONE = RoadOffice.NONE;

    private GroupTerms() { }

    static void tell(Document document) {
        document.open("Terms");
        document.sentence("GROUPS, AS OF T: a POST is WHOLE, if all its 84 DAYS are SEEN;", GroupTerms::wholePosts);
        document.sentence("a GROUP's are its WHOLE POSTS", GroupTerms::postsOfAGroup);
        document.sentence("(the first four, by number).", GroupTerms::firstFour);
        document.sentence("WORTH of a DAY in a GROUP: the sum of all its POSTS' COUNTS on that weekday, times the sum"
                + " of those in that MONTH.", GroupTerms::worths);
        document.sentence("A GROUP is there, if it has a POST", GroupTerms::groupWithoutPosts);
        document.sentence("and all its COUNTS together are not 0.", GroupTerms::groupOfZeros);
        document.sentence("A ROAD's SAMPLE: its first 14 DAYS SEEN", GroupTerms::firstFourteen);
        document.sentence("(1 at least;", GroupTerms::sampleOfOneAtLeast);
        document.sentence("of a WHOLE POST none).", GroupTerms::sampleOfAWholePost);
        document.sentence("Its FIT in a GROUP that is there:", GroupTerms::fitsWhatIsThere);
        document.sentence("with X the COUNTS of the SAMPLE, W their WORTHS: the least, over all a, of the sum of"
                + " squares of X - a W.", GroupTerms::leastSquares);
        document.sentence("(Where all W are 0, it does not fit at all.)", GroupTerms::allWorthNothing);
        document.sentence("BEST: the GROUP with the least,", GroupTerms::best);
        document.sentence("of like ones the first.", GroupTerms::bestOfLikeOnes);
        document.sentence("YEAR of a ROAD: of a WHOLE POST the sum of its COUNTS;", GroupTerms::yearOfAWholePost);
        document.sentence("else, if it has a SAMPLE and fits a GROUP:", GroupTerms::yearWithoutAFit);
        document.sentence("with that a of the BEST one, a times the sum of WORTHS of all 84 DAYS.",
                GroupTerms::ledYear);
        document.sentence("TRIAL of a WHOLE POST", GroupTerms::trialOfOthers);
        document.sentence("whose GROUP is there without it", GroupTerms::groupWithoutIt);
        document.sentence("(of the others, the first four):", GroupTerms::firstFourOthers);
        document.sentence("with its first 7 DAYS as SAMPLE", GroupTerms::firstSevenDays);
        document.sentence("and that GROUP, whatever others there are, the YEAR that comes of it",
                GroupTerms::trialInItsGroup);
        document.sentence("(if it fits).", GroupTerms::trialThatDoesNotFit);
    }

    /** Each day of the year lacks once, as a gap, by works, and as of a time ahead of it. */
    private static void wholePosts() {
        Desk d = new Desk();
        d.post(0, 3, Desk.days(84, 0));
        Desk.due("all days are seen", d.office.whole(0, 0), 1);
        for (int day = 0; day < 84; day++) {
            d.office.works(0, day, day + 1, true);
            Desk.due("day " + day + " is apart", d.office.whole(0, 0), 0);
            d.office.works(0, day, day + 1, false);
        }
        Desk.due("whole again", d.office.whole(0, 0), 1);
        for (int day : new int[] {0, 83}) {
            d = new Desk();
            int[] year = Desk.days(84, 1);
            year[day] = 255;
            d.post(0, 3, year);
            Desk.due("day " + day + " is not counted", d.office.whole(0, 0), 0);
            d.office.later();
            d.counts(0, day, 0);
            Desk.due("it became known", d.office.whole(0, 1), 1);
            Desk.due("but not as of then", d.office.whole(0, 0), 0);
        }
        d = new Desk();
        d.post(0, 3, Desk.days(83, 1));
        Desk.due("83 days", d.office.whole(0, 0), 0);
        d.counts(0, 83, 1);
        Desk.due("84 days", d.office.whole(0, 0), 1);
    }

    private static void postsOfAGroup() {
        Desk d = new Desk();
        d.post(0, 1, Desk.days(84, 1));
        d.post(1, 1, Desk.days(83, 50));
        d.post(2, 2, Desk.days(84, 50));
        d.post(3, NONE, Desk.days(84, 50));
        Desk.due("one is whole", d.office.posts(1, 0), 1);
        Desk.due("it alone counts", d.office.worth(1, 83, 0), 12 * 7);
        d.office.later();
        d.counts(1, 83, 2);
        Desk.due("two are", d.office.posts(1, 1), 2);
        Desk.due("both count", d.office.worth(1, 83, 1), (12 + 11 * 50 + 2) * (7 + 6 * 50 + 2));
        Desk.due("but one as of then", d.office.posts(1, 0), 1);
    }

    private static void firstFour() {
        Desk d = new Desk();
        for (int i = 0; i < 6; i++) {
            d.post(15 - 3 * i, 2, Desk.days(84, 1 + i));
        }
        // Roads 0, 3, 6, 9, 12 and 15 count 6, 5, 4, 3, 2 and 1 a day.
        Desk.due("four posts", d.office.posts(2, 0), 4);
        Desk.due("0, 3, 6 and 9", d.office.worth(2, 0, 0), 12 * 18 * 7 * 18);
        d.office.works(3, 0, 1, true);
        Desk.due("still four", d.office.posts(2, 0), 4);
        Desk.due("0, 6, 9 and 12", d.office.worth(2, 0, 0), 12 * 15 * 7 * 15);
        d.office.works(0, 83, 84, true);
        Desk.due("6, 9, 12 and 15", d.office.worth(2, 0, 0), 12 * 10 * 7 * 10);
        d.office.works(6, 40, 41, true);
        Desk.due("three", d.office.posts(2, 0), 3);
        Desk.due("9, 12 and 15", d.office.worth(2, 0, 0), 12 * 6 * 7 * 6);
    }

    private static void worths() {
        Desk d = new Desk();
        int[] months = new int[84];
        for (int day = 0; day < 84; day++) {
            months[day] = day / 7;
        }
        d.post(0, 0, Desk.weekly(0, 1, 2, 3, 4, 5, 6));
        d.post(1, 0, months);
        // Weekday w: 12 w + (0 + .. + 11); month m: (0 + .. + 6) + 7 m.
        for (int day = 0; day < 84; day++) {
            int due = (12 * (day % 7) + 66) * (21 + 7 * (day / 7));
            Desk.due("day " + day, d.office.worth(0, day, 0), due);
        }
        d = new Desk();
        for (int r = 0; r < 4; r++) {
            d.post(r, 0, Desk.days(84, 50));
        }
        Desk.due("the greatest there is", d.office.worth(0, 83, 0), 2400 * 1400);
    }

    private static void groupWithoutPosts() {
        Desk d = new Desk();
        d.office.road(0, 0, 1, 0);
        d.post(1, 0, Desk.days(83, 1));
        d.road(2, 0, 1, 1);
        Desk.due("posts", d.office.posts(0, 0), 0);
        Desk.refused("worth", () -> d.office.worth(0, 0, 0));
        Desk.due("fit", d.office.fit(2, 0, 0), NONE);
        d.counts(1, 83, 1);
        Desk.due("posts, with one", d.office.posts(0, 0), 1);
        Desk.due("worth, with one", d.office.worth(0, 0, 0), 84);
        Desk.due("fit, with one", d.office.fit(2, 0, 0), 0);
    }

    private static void groupOfZeros() {
        Desk d = new Desk();
        for (int r = 0; r < 4; r++) {
            d.post(r, 0, Desk.days(84, 0));
        }
        d.road(5, 0, 1, 1);
        Desk.due("posts of zeros", d.office.posts(0, 0), 0);
        Desk.refused("worth of zeros", () -> d.office.worth(0, 0, 0));
        Desk.due("fit of zeros", d.office.fit(5, 0, 0), NONE);
        d.post(4, 0, Desk.days(84, 50));
        Desk.due("the fifth is none of its posts", d.office.posts(0, 0), 0);
        Desk.refused("worth, with a fifth", () -> d.office.worth(0, 0, 0));
        d.counts(3, 83, 1);
        Desk.due("one wagon in all is enough", d.office.posts(0, 0), 4);
        Desk.due("a worth of 1", d.office.worth(0, 83, 0), 1);
        Desk.due("a worth of 0", d.office.worth(0, 0, 0), 0);
    }

    private static void firstFourteen() {
        for (int n : new int[] {1, 2, 13, 14, 15, 16, 83, 84}) {
            Desk d = new Desk();
            d.post(0, 0, Desk.days(84, 1));
            int[] row = Desk.days(n, 1);
            row[n - 1] = 15;
            d.road(1, 0, 1, row);
            int most = Math.min(n, 14);
            Desk.due("sample of " + n, d.office.sample(1, 0), most);
            // The mean of the sample, 84 times: its last day has 14 more, if it is in it.
            long sum = 84L * (n <= 14 ? n + 14 : 14);
            Desk.due("year of " + n, d.office.year(1, 0, 0) * most, sum * d.office.year(1, 0, 1));
        }
        Desk d = new Desk();
        d.post(0, 0, Desk.days(84, 1));
        d.road(1, 0, 1, 50, 255);
        d.counts(1, 70, Desk.days(14, 1));
        Desk.due("day 83 is the fifteenth", d.office.sample(1, 0), 14);
        d.dueYear(1, 0, 6 * 63, 1);
        d.office.works(1, 0, 1, true);
        Desk.due("the fourteenth then", d.office.sample(1, 0), 14);
        d.dueYear(1, 0, 84, 1);
        d.office.works(1, 82, 84, true);
        Desk.due("twelve are left", d.office.sample(1, 0), 12);
    }

    private static void sampleOfOneAtLeast() {
        Desk d = new Desk();
        d.post(0, 0, Desk.days(84, 1));
        d.road(1, 0, 1, 255);
        Desk.due("no day is seen", d.office.sample(1, 0), 0);
        Desk.due("no fit", d.office.fit(1, 0, 0), NONE);
        Desk.refused("no year", () -> d.office.year(1, 0, 0));
        d.counts(1, 83, 0);
        Desk.due("one day is seen", d.office.sample(1, 0), 1);
        Desk.due("a fit", d.office.fit(1, 0, 0), 0);
        d.dueYear(1, 0, 0, 1);
    }

    private static void sampleOfAWholePost() {
        Desk d = new Desk();
        d.post(0, 0, Desk.days(84, 1));
        d.road(1, 0, 1, Desk.days(84, 1));
        Desk.due("of a whole post", d.office.sample(0, 0), 0);
        Desk.due("it fits no group", d.office.fit(0, 0, 0), NONE);
        Desk.due("of a whole year without a group", d.office.sample(1, 0), 14);
        d.office.works(0, 83, 84, true);
        Desk.due("of a post that is not whole", d.office.sample(0, 0), 14);
    }

    private static void fitsWhatIsThere() {
        Desk d = new Desk();
        d.post(0, 1, Desk.days(84, 1));
        d.post(1, 2, Desk.days(84, 0));
        d.post(2, 3, Desk.days(83, 1));
        d.road(4, 0, 1, 1);
        Desk.due("group 1 is there", d.office.fit(4, 0, 0), 1);
        Desk.due("it alone", d.office.fit(4, 1, 0), NONE);
        d.counts(1, 0, 1);
        d.counts(2, 83, 1);
        Desk.due("1 of three", d.office.fit(4, 0, 0), 1);
        Desk.due("2 of three", d.office.fit(4, 1, 0), 2);
        Desk.due("3 of three", d.office.fit(4, 2, 0), 3);
        Desk.due("no more than three", d.office.fit(4, 3, 0), NONE);
    }

    /** What is left over: the squares of X less those of X times W by W's own. */
    private static void leastSquares() {
        Desk d = new Desk();
        d.post(0, 0, Desk.weekly(3, 1, 0, 0, 0, 0, 0));
        d.post(1, 1, Desk.weekly(1, 1, 0, 0, 0, 0, 0));
        d.post(2, 2, Desk.weekly(10, 20, 0, 0, 0, 0, 0));
        d.post(3, 3, Desk.weekly(2, 1, 0, 0, 0, 0, 0));
        d.road(4, 0, 1, 1, 3);
        d.road(5, 0, 1, 3, 1);
        // 1, 3: 6.4, 2, 0.2 and 5 are left; 3, 1: 0, 2, 5 and 0.2.
        int[] rising = {2, 1, 3, 0};
        int[] falling = {0, 3, 1, 2};
        for (int k = 0; k < 4; k++) {
            Desk.due("1, 3 at rank " + k, d.office.fit(4, k, 0), rising[k]);
            Desk.due("3, 1 at rank " + k, d.office.fit(5, k, 0), falling[k]);
        }
        // a is 0 in the first group: 9 is left; in the other one 9 * 4 / 5.
        d = new Desk();
        d.post(0, 0, Desk.weekly(0, 1, 0, 0, 0, 0, 0));
        d.post(1, 1, Desk.weekly(1, 2, 0, 0, 0, 0, 0));
        d.road(4, 0, 1, 3, 0);
        Desk.due("a is not 0", d.office.fit(4, 0, 0), 1);
        Desk.due("a is 0", d.office.fit(4, 1, 0), 0);
        nearlyLike();
    }

    /** What is taken off the squares of X differs by a small part alone. */
    private static void nearlyLike() {
        for (int even = 0; even < 2; even++) {
            Desk d = new Desk();
            d.post(0, even, Desk.days(84, 10));
            d.post(1, 1 - even, Desk.weekly(10, 11, 10, 10, 10, 10, 10));
            d.road(2, 0, 1, 1, 3);
            // 4 * 4 / 2 of the even group, 43 * 43 / 221 of the other one
            Desk.due("8 and a part", d.office.fit(2, 0, 0), 1 - even);
            Desk.due("8", d.office.fit(2, 1, 0), even);
        }
        Desk d = new Desk();
        int[] nearly = Desk.days(84, 50);
        nearly[80] = 49;
        for (int r = 0; r < 4; r++) {
            d.post(r, 0, r == 0 ? nearly : Desk.days(84, 50));
        }
        d.post(4, 1, Desk.days(84, 50));
        d.road(5, 0, 1, Desk.days(12, 50));
        Desk.due("as even as the sample", d.office.fit(5, 0, 0), 1);
        Desk.due("but for one wagon", d.office.fit(5, 1, 0), 0);
    }

    private static void allWorthNothing() {
        Desk d = new Desk();
        int[] year = Desk.weekly(0, 1, 1, 1, 1, 1, 1);
        year[71] = 0;
        for (int day = 21; day < 28; day++) {
            year[day] = 0;
        }
        d.post(0, 0, year);
        d.office.road(1, 0, 1, NONE);
        d.counts(1, 7, 5);
        Desk.due("a weekday worth nothing", d.office.fit(1, 0, 0), NONE);
        d.counts(1, 22, 5, 5);
        Desk.due("a month worth nothing", d.office.fit(1, 0, 0), NONE);
        Desk.refused("no year", () -> d.office.year(1, 0, 0));
        Desk.due("three days all the same", d.office.sample(1, 0), 3);
        d.counts(1, 83, 0);
        Desk.due("one day is worth something", d.office.fit(1, 0, 0), 0);
        d.dueYear(1, 0, 0, 1);
        d.office.works(1, 83, 84, true);
        d.counts(1, 71, 0);
        Desk.due("none was counted, but worth it is", d.office.fit(1, 0, 0), 0);
    }

    private static void best() {
        Desk d = new Desk();
        d.post(0, 0, Desk.weekly(2, 1, 1, 1, 1, 1, 1));
        d.post(1, 3, Desk.weekly(1, 1, 1, 1, 1, 1, 2));
        d.road(2, 0, 1, 2, 1, 1);
        d.office.road(3, 0, 1, NONE);
        d.counts(3, 5, 1, 2);
        Desk.due("group 0", d.office.fit(2, 0, 0), 0);
        Desk.due("group 3", d.office.fit(3, 0, 0), 3);
        d.dueYear(2, 0, 96, 1);
        d.dueYear(3, 0, 96, 1);
    }

    private static void bestOfLikeOnes() {
        Desk d = new Desk();
        d.post(0, 3, Desk.weekly(1, 2, 3, 4, 5, 6, 7));
        d.post(1, 2, Desk.weekly(2, 4, 6, 8, 10, 12, 14));
        d.post(2, 1, Desk.weekly(7, 14, 21, 28, 35, 42, 49));
        d.road(4, 0, 1, 1, 1, 2);
        for (int k = 0; k < 4; k++) {
            Desk.due("three like ones, " + k, d.office.fit(4, k, 0), k < 3 ? 1 + k : NONE);
        }
        d.post(3, 0, Desk.days(84, 1));
        Desk.due("one that fits worse is last", d.office.fit(4, 3, 0), 0);
        d.road(5, 0, 1, 0, 0, 0);
        for (int k = 0; k < 4; k++) {
            Desk.due("zeros fit all alike, " + k, d.office.fit(5, k, 0), k);
        }
        d.road(6, 0, 1, 9);
        for (int k = 0; k < 4; k++) {
            Desk.due("and so does one day, " + k, d.office.fit(6, k, 0), k);
        }
    }

    private static void yearOfAWholePost() {
        Desk d = new Desk();
        d.post(0, 0, Desk.days(84, 50));
        d.post(1, 1, Desk.days(84, 0));
        int[] year = Desk.days(84, 1);
        year[0] = 3;
        year[83] = 5;
        for (int r = 2; r < 7; r++) {
            d.post(r, 2, year);
        }
        d.dueYear(0, 0, 4200, 1);
        d.dueYear(1, 0, 0, 1);
        d.dueYear(2, 0, 90, 1);
        d.dueYear(6, 0, 90, 1);
        d.office.later();
        d.counts(2, 83, 0);
        d.dueYear(2, 1, 85, 1);
        d.dueYear(2, 0, 90, 1);
    }

    private static void yearWithoutAFit() {
        Desk d = new Desk();
        d.road(0, 0, 1, 1);
        Desk.refused("a sample, but no group", () -> d.office.year(0, 0, 0));
        d.post(1, 0, Desk.weekly(0, 1, 1, 1, 1, 1, 1));
        Desk.refused("a sample and a group that it does not fit", () -> d.office.year(0, 0, 0));
        d.office.road(2, 0, 1, 0);
        Desk.refused("a group, but no sample", () -> d.office.year(2, 0, 0));
        d.counts(0, 1, 1);
        d.counts(2, 1, 1);
        d.dueYear(0, 0, 72, 1);
        d.dueYear(2, 0, 72, 1);
    }

    private static void ledYear() {
        Desk d = new Desk();
        d.post(0, 0, Desk.weekly(1, 2, 3, 4, 5, 6, 7));
        d.road(1, 0, 1, 1, 2, 4);
        // W is 336 times 1, 2, 3; a is 17 by 14 * 336, and all days are worth 336 * 336.
        d.dueYear(1, 0, 408, 1);
        d.road(2, 0, 1, 255, 255, 255, 255, 255, 255, 1, 1);
        // W is 336 times 7, 1: 8 by 50 times 336.
        d.dueYear(2, 0, 1344, 25);
        d = new Desk();
        int[] year = Desk.days(84, 50);
        for (int day = 0; day < 84; day++) {
            year[day] = day < 7 || day % 7 == 0 ? 0 : 50;
        }
        for (int r = 1; r < 4; r++) {
            d.post(r, 0, year);
        }
        year[0] = 1;
        d.post(0, 0, year);
        d.road(4, 0, 1, 50);
        // Day 0 is worth 1, all days 13201 * 13201: far beyond an int.
        d.dueYear(4, 0, 8713320050L, 1);
    }

    private static void trialOfOthers() {
        Desk d = new Desk();
        d.post(0, 0, Desk.days(84, 1));
        d.post(1, 0, Desk.days(84, 2));
        d.post(2, 0, Desk.days(83, 1));
        d.post(3, NONE, Desk.days(84, 1));
        d.dueTrial(0, 0, 84, 1);
        d.dueTrial(1, 0, 168, 1);
        Desk.refused("a post that is not whole", () -> d.office.trial(2, 0, 0));
        Desk.refused("no post", () -> d.office.trial(3, 0, 0));
        d.office.later();
        d.counts(2, 83, 1);
        d.dueTrial(2, 1, 84, 1);
        Desk.refused("not as of then", () -> d.office.trial(2, 0, 0));
        d.office.works(0, 0, 1, true);
        Desk.refused("not whole any more", () -> d.office.trial(0, 1, 0));
    }

    private static void groupWithoutIt() {
        Desk d = new Desk();
        d.post(0, 0, Desk.days(84, 3));
        d.post(9, 1, Desk.days(84, 3));
        Desk.refused("it alone", () -> d.office.trial(0, 0, 0));
        for (int r = 1; r < 5; r++) {
            d.post(r, 0, Desk.days(84, 0));
            Desk.refused("others of zeros", () -> d.office.trial(0, 0, 0));
        }
        d.dueTrial(1, 0, 0, 1);
        d.post(5, 0, Desk.days(84, 3));
        Desk.refused("the first four others are zeros", () -> d.office.trial(0, 0, 0));
        d.counts(4, 0, 1);
        d.dueTrial(0, 0, 3, 1);
    }

    private static void firstFourOthers() {
        Desk d = new Desk();
        d.post(0, 0, Desk.days(84, 1));
        for (int r = 1; r < 6; r++) {
            int[] week = new int[7];
            week[r] = 1;
            d.post(r, 0, Desk.weekly(week));
        }
        // Without 0: weekdays 1 to 4 alike, 48 in all; without another one 0 and the first three others.
        d.dueTrial(0, 0, 48, 1);
        d.dueTrial(5, 0, 15, 2);
        d.dueTrial(4, 0, 15, 2);
        d.dueTrial(1, 0, 15, 2);
    }

    private static void firstSevenDays() {
        for (int day : new int[] {0, 6, 7, 83}) {
            Desk d = new Desk();
            int[] year = Desk.days(84, 1);
            year[day] = 8;
            d.post(0, 0, year);
            d.post(1, 0, Desk.days(84, 1));
            d.dueTrial(0, 0, day < 7 ? 168 : 84, 1);
        }
    }

    private static void trialInItsGroup() {
        Desk d = new Desk();
        d.post(0, 2, Desk.weekly(1, 2, 3, 4, 5, 6, 7));
        d.post(1, 2, Desk.days(84, 1));
        d.post(2, 0, Desk.weekly(1, 2, 3, 4, 5, 6, 7));
        d.dueTrial(0, 0, 336, 1);
        // 28 by 140, times 336
        d.dueTrial(1, 0, 336, 5);
        d.post(3, 0, Desk.days(84, 1));
        d.dueTrial(1, 0, 336, 5);
    }

    private static void trialThatDoesNotFit() {
        Desk d = new Desk();
        d.post(0, 0, Desk.onDay(7, 1));
        d.post(1, 0, Desk.days(84, 1));
        Desk.refused("the first month of the others is empty", () -> d.office.trial(1, 0, 0));
        d.dueTrial(0, 0, 0, 1);
        d.counts(0, 6, 1);
        // Days 0 and 6 are worth 1 each, all days 2 * 2.
        d.dueTrial(1, 0, 4, 1);
    }
}

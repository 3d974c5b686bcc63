/** Each promise of the document: ordinary inputs, the edges that it names, wrong inputs. */
public final class PromiseTest {
    private static final int NONE = RoadOffice.NONE;
    private static final int LEAST = Integer.MIN_VALUE;
    private static final int MOST = Integer.MAX_VALUE;

    public static void main(String[] args) {
        newObject();
        feed();
        end();
        road();
        count();
        countOfFullBooks();
        counts();
        countsOfFullBooks();
        later();
        works();
        seen();
        kind();
        whole();
        posts();
        worth();
        worthOfFirstFour();
        sample();
        fit();
        fitExactly();
        fitBehindATrial();
        fitOfZeros();
        year();
        yearOfManyDays();
        trial();
        trialOfFirstFour();
        flow();
        flowAtItsMost();
        missing();
        agreed();
        agreedOfClosedParts();
        agreedOfAWholeMap();
        agreedWithoutSome();
        told();
        refusedCallsChangeNothing();
        Desk.leave();
    }

    // Promise 1
    private static void newObject() {
        RoadOffice x = new RoadOffice();
        Desk.due("1: NONE", RoadOffice.NONE, -1);
        for (int what = 0; what < 4; what++) {
            Desk.due("1: told of a new object", x.told(what), 0);
        }
        for (int r = -1; r < 17; r++) {
            Desk.due("1: whole of no road", x.whole(r, 0), NONE);
        }
        for (int g = 0; g < 4; g++) {
            Desk.due("1: posts of a new object", x.posts(g, 0), 0);
        }
        for (int c = 0; c < 8; c++) {
            Desk.due("1: missing of a new object", x.missing(c, 0), 0);
        }
        Desk d = new Desk();
        d.post(0, 0, Desk.days(84, 1));
        d.office.later();
        Desk.due("1: objects are apart", x.told(0) + x.told(1) + x.told(2), 0);
    }

    // Promise 2
    private static void feed() {
        Desk d = new Desk();
        Desk.due("2: first feed", d.office.feed(0x01020304, 0x05060700, 0, 0, 0), 20);
        d.office.end(7);
        d.office.road(0, 0, 1, NONE);
        Desk.due("2: the highest byte first", d.office.count(0, 0), 1 + 2 + 3 + 4 + 5 + 6 - 7);
        for (int i = 1; i <= 10; i++) {
            Desk.due("2: feed", d.office.feed(LEAST, MOST, -1, 0, 1), 20 * i);
        }
        Desk.due("2: a feed too much", d.office.feed(0, 0, 0, 0, 0), NONE);
        Desk.due("2: none came", d.office.told(3), 200);
        d.office.end(181);
        Desk.due("2: 201 would be too many", d.office.feed(0, 0, 0, 0, 0), NONE);
        Desk.due("2: none came to 181", d.office.told(3), 181);
        d.office.end(180);
        Desk.due("2: 200 are not", d.office.feed(0, 0, 0, 0, 0), 200);
        d.office.end(0);
        d.office.feed(0, 0x0000002a, 0, 0, 0x0000000b);
        Desk.due("2: each number in its turn", d.office.counts(0, 0), 20);
        Desk.due("2: last byte of the second number", d.office.seen(0, 7, 0), 42);
        Desk.due("2: last byte of all", d.office.seen(0, 19, 0), 11);
    }

    // Promise 3
    private static void end() {
        Desk d = new Desk();
        Desk.due("3: 0 of an empty tape", d.office.end(0), true);
        Desk.due("3: 1 of an empty tape", d.office.end(1), false);
        d.tape(1, 2, 3, 4, 5);
        Desk.due("3: more than it has", d.office.end(6), false);
        Desk.due("3: below 0", d.office.end(-1), false);
        Desk.due("3: far below 0", d.office.end(LEAST), false);
        Desk.due("3: far beyond", d.office.end(MOST), false);
        Desk.due("3: all stay", d.office.told(3), 5);
        Desk.due("3: all", d.office.end(5), true);
        Desk.due("3: two", d.office.end(2), true);
        Desk.due("3: not again three", d.office.end(3), false);
        d.office.feed(0x09000000, 0, 0, 0, 0);
        d.office.end(3);
        d.office.road(0, 0, 1, NONE);
        d.office.counts(0, 0);
        Desk.due("3: the first stay", d.office.seen(0, 1, 0), 2);
        Desk.due("3: new ones come behind", d.office.seen(0, 2, 0), 9);
    }

    // Promise 4
    private static void road() {
        RoadOffice x = new RoadOffice();
        int[][] wrong = {{-1, 0, 1, 0}, {16, 0, 1, 0}, {0, -1, 1, 0}, {0, 8, 1, 0}, {0, 0, -1, 0},
            {0, 0, 8, 0}, {0, 0, 0, 0}, {0, 7, 7, 0}, {0, 0, 1, -2}, {0, 0, 1, 4},
            {LEAST, 0, 1, 0}, {MOST, 0, 1, 0}, {0, LEAST, 1, 0}, {0, 0, MOST, 0}, {0, 0, 1, MOST}, {0, 0, 1, LEAST}};
        for (int[] w : wrong) {
            Desk.due("4: road " + java.util.Arrays.toString(w), x.road(w[0], w[1], w[2], w[3]), false);
        }
        Desk.due("4: none came", x.told(0), 0);
        for (int r = 0; r < 16; r++) {
            Desk.due("4: road " + r, x.road(r, r % 8, (r + 1) % 8, r % 5 - 1), true);
        }
        Desk.due("4: all came", x.told(0), 16);
        Desk.due("4: it is one", x.road(3, 0, 1, 0), false);
        Desk.due("4: not twice", x.told(0), 16);
        Desk d = new Desk();
        d.office.road(0, 4, 0, 0);
        d.office.road(0, 0, 4, 1);
        d.counts(0, 0, Desk.days(84, 1));
        Desk.due("4: a road stays in its group", d.office.posts(0, 0), 1);
        Desk.due("4: and is not in the other", d.office.posts(1, 0), 0);
        Desk.due("4: it leads to", d.office.missing(0, 0), 84);
        Desk.due("4: it leads from", d.office.missing(4, 0), -84);
    }

    // Promise 5
    private static void count() {
        Desk d = new Desk();
        Desk.due("5: no such road", d.count(0, 0, 1, 1, 1, 1, 1, 1, 1), NONE);
        Desk.due("5: the tape is empty then", d.office.told(3), 0);
        d.office.road(0, 0, 1, NONE);
        Desk.due("5: the sum less doubles", d.count(0, 0, 1, 2, 4, 8, 16, 32, 60), 3);
        Desk.due("5: empty behind it", d.office.told(3), 0);
        Desk.due("5: 0", d.count(0, 1, 255, 255, 255, 0, 0, 0, 255), NONE);
        Desk.due("5: 50", d.count(0, 83, 50, 0, 0, 0, 0, 0, 0), 50);
        Desk.due("5: 50, with doubles", d.count(0, 2, 255, 0, 0, 0, 0, 50, 255), 50);
        Desk.due("5: 51", d.count(0, 2, 50, 0, 0, 0, 0, 1, 0), NONE);
        Desk.due("5: 0 and no more", d.count(0, 3, 0, 0, 0, 0, 0, 255, 255), 0);
        Desk.due("5: below 0", d.count(0, 3, 0, 0, 0, 0, 0, 254, 255), NONE);
        Desk.due("5: empty then too", d.office.told(3), 0);
        Desk.due("5: 6 bytes", d.count(0, 4, 1, 1, 1, 1, 1, 1), NONE);
        Desk.due("5: 8 bytes", d.count(0, 4, 1, 1, 1, 1, 1, 1, 1, 0), NONE);
        Desk.due("5: no bytes", d.count(0, 4), NONE);
        for (int day : new int[] {-1, 84, LEAST, MOST}) {
            Desk.due("5: day " + day, d.count(0, day, 1, 1, 1, 1, 1, 1, 1), NONE);
        }
        for (int r : new int[] {-1, 1, 16, LEAST, MOST}) {
            Desk.due("5: road " + r, d.count(r, 0, 1, 1, 1, 1, 1, 1, 1), NONE);
        }
        Desk.due("5: entries", d.office.told(1), 4);
        Desk.due("5: the last of one NOW holds", d.count(0, 0, 9, 0, 0, 0, 0, 0, 0), 9);
        Desk.due("5: it does", d.office.seen(0, 0, 0), 9);
        Desk.due("5: and is one more", d.office.told(1), 5);
    }

    private static void countOfFullBooks() {
        Desk d = fullBooksButOne();
        Desk.due("5: the 600th", d.count(8, 1, 1, 2, 3, 4, 5, 6, 7), 14);
        Desk.due("5: it came", d.office.told(1), 600);
        Desk.due("5: the 601st", d.count(8, 30, 1, 2, 3, 4, 5, 6, 7), NONE);
        Desk.due("5: it did not come", d.office.told(1), 600);
        Desk.due("5: but the tape is empty", d.office.told(3), 0);
        Desk.due("5: no entry", d.office.seen(8, 30, 0), -2);
    }

    private static Desk fullBooksButOne() {
        Desk d = new Desk();
        for (int r = 0; r < 7; r++) {
            d.post(r, NONE, Desk.days(84, 1));
        }
        d.road(8, 0, 1, Desk.days(11, 1));
        return d;
    }

    // Promise 6
    private static void counts() {
        Desk d = new Desk();
        Desk.due("6: no such road", d.counts(0, 0, 1), NONE);
        Desk.due("6: the tape is empty then", d.office.told(3), 0);
        d.office.road(0, 0, 1, NONE);
        Desk.due("6: three", d.counts(0, 81, 0, 50, 255), 3);
        Desk.due("6: the tape is empty", d.office.told(3), 0);
        Desk.due("6: 0", d.office.seen(0, 81, 0), 0);
        Desk.due("6: 50", d.office.seen(0, 82, 0), 50);
        Desk.due("6: not counted", d.office.seen(0, 83, 0), NONE);
        Desk.due("6: beyond the year", d.counts(0, 82, 1, 2, 3), NONE);
        Desk.due("6: none came", d.office.seen(0, 82, 0), 50);
        Desk.due("6: ahead of the year", d.counts(0, -1, 1, 2, 3), NONE);
        Desk.due("6: far beyond", d.counts(0, MOST, 1, 2, 3), NONE);
        Desk.due("6: far ahead", d.counts(0, LEAST, 1, 2, 3), NONE);
        Desk.due("6: 51", d.counts(0, 0, 1, 2, 51), NONE);
        Desk.due("6: 254", d.counts(0, 0, 254, 1, 2), NONE);
        Desk.due("6: none came ahead of it", d.office.seen(0, 0, 0), -2);
        Desk.due("6: no bytes", d.counts(0, 0), 0);
        Desk.due("6: no bytes at the end", d.counts(0, 84), 0);
        Desk.due("6: 85 days", d.counts(0, 0, Desk.days(85, 1)), NONE);
        Desk.due("6: 84 days", d.counts(0, 0, Desk.days(84, 1)), 84);
        Desk.due("6: entries", d.office.told(1), 87);
        Desk.due("6: no bytes, no road", d.counts(1, 0), NONE);
        Desk.due("6: no bytes, day below", d.counts(0, -1), NONE);
        for (int r : new int[] {-1, 1, 16, LEAST, MOST}) {
            Desk.due("6: road " + r, d.counts(r, 0, 1), NONE);
        }
    }

    private static void countsOfFullBooks() {
        Desk d = fullBooksButOne();
        Desk.due("6: two too many", d.counts(8, 20, 1, 2), NONE);
        Desk.due("6: none came", d.office.told(1), 599);
        Desk.due("6: not the first either", d.office.seen(8, 20, 0), -2);
        Desk.due("6: the 600th", d.counts(8, 20, 3), 1);
        Desk.due("6: the 601st", d.counts(8, 21, 3), NONE);
        Desk.due("6: none need no room", d.counts(8, 21), 0);
    }

    // Promise 7
    private static void later() {
        RoadOffice x = new RoadOffice();
        for (int i = 1; i <= 99; i++) {
            Desk.due("7: later", x.later(), i);
        }
        Desk.due("7: it is 99", x.later(), NONE);
        Desk.due("7: it stays", x.told(2), 99);
        Desk d = new Desk();
        d.road(0, 0, 1, 5);
        d.office.later();
        d.counts(0, 0, 6);
        Desk.due("7: then", d.office.seen(0, 0, 0), 5);
        Desk.due("7: now", d.office.seen(0, 0, 1), 6);
    }

    // Promise 8
    private static void works() {
        Desk d = new Desk();
        Desk.due("8: no such road", d.office.works(0, 0, 1, true), NONE);
        d.road(0, 0, 1, Desk.days(84, 1));
        Desk.due("8: on", d.office.works(0, 10, 20, true), 10);
        Desk.due("8: on, some again", d.office.works(0, 5, 15, true), 5);
        Desk.due("8: the first", d.office.seen(0, 5, 0), -3);
        Desk.due("8: ahead of it", d.office.seen(0, 4, 0), 1);
        Desk.due("8: the last", d.office.seen(0, 19, 0), -3);
        Desk.due("8: behind it", d.office.seen(0, 20, 0), 1);
        Desk.due("8: off", d.office.works(0, 0, 84, false), 15);
        Desk.due("8: counts are there again", d.office.seen(0, 12, 0), 1);
        Desk.due("8: none", d.office.works(0, 7, 7, true), 0);
        Desk.due("8: none at the end", d.office.works(0, 84, 84, true), 0);
        Desk.due("8: all", d.office.works(0, 0, 84, true), 84);
        int[][] wrong = {{0, -1, 3}, {0, 4, 3}, {0, 0, 85}, {0, 85, 85}, {-1, 0, 1}, {1, 0, 1}, {16, 0, 1},
            {0, LEAST, MOST}, {0, 0, MOST}, {0, MOST, LEAST}, {LEAST, 0, 0}, {MOST, 0, 0}};
        for (int[] w : wrong) {
            Desk.due("8: works " + java.util.Arrays.toString(w), d.office.works(w[0], w[1], w[2], false), NONE);
        }
        Desk.due("8: nothing changed", d.office.seen(0, 0, 0), -3);
        d.office.road(1, 0, 1, NONE);
        Desk.due("8: of its road alone", d.office.seen(1, 0, 0), -2);
        Desk.due("8: no entries", d.office.told(1), 84);
    }

    // Promise 9
    private static void seen() {
        Desk d = new Desk();
        d.road(0, 0, 1, 7, 255);
        Desk.due("9: a count", d.office.seen(0, 0, 0), 7);
        Desk.due("9: not counted", d.office.seen(0, 1, 0), NONE);
        Desk.due("9: no entry", d.office.seen(0, 2, 0), -2);
        Desk.due("9: a time to come", d.office.seen(0, 0, MOST), 7);
        d.office.works(0, 1, 3, true);
        Desk.due("9: apart, not counted", d.office.seen(0, 1, 0), -3);
        Desk.due("9: apart, no entry", d.office.seen(0, 2, 0), -3);
        int[][] wrong = {{-1, 0, 0}, {1, 0, 0}, {16, 0, 0}, {0, -1, 0}, {0, 84, 0}, {0, 0, -1}, {0, 1, -1},
            {LEAST, 0, 0}, {MOST, 0, 0}, {0, LEAST, 0}, {0, MOST, 0}, {0, 0, LEAST}};
        for (int[] w : wrong) {
            Desk.due("9: seen " + java.util.Arrays.toString(w), d.office.seen(w[0], w[1], w[2]), -4);
        }
        d.office.later();
        d.office.later();
        d.counts(0, 0, 255);
        d.office.later();
        d.counts(0, 0, 8, 0, 0, 9);
        d.counts(0, 0, 10);
        int[] due = {7, 7, NONE, 10, 10};
        for (int t = 0; t < due.length; t++) {
            Desk.due("9: as of " + t, d.office.seen(0, 0, t), due[t]);
        }
        Desk.due("9: not told yet", d.office.seen(0, 3, 2), -2);
        Desk.due("9: told", d.office.seen(0, 3, 3), 9);
    }

    // Promise 10
    private static void kind() {
        Desk d = new Desk();
        d.office.road(0, 0, 1, NONE);
        d.count(0, 0, 1, 2, 4, 8, 16, 32, 60);
        Desk.due("10: kind 0", d.office.kind(0, 0, 0, 0), 9);
        Desk.due("10: kind 1", d.office.kind(0, 0, 0, 1), 18);
        Desk.due("10: kind 2", d.office.kind(0, 0, 0, 2), 36);
        Desk.due("10: no kind 3", d.office.kind(0, 0, 0, 3), NONE);
        Desk.due("10: no kind below", d.office.kind(0, 0, 0, -1), NONE);
        Desk.due("10: far beyond", d.office.kind(0, 0, 0, MOST), NONE);
        Desk.due("10: far below", d.office.kind(0, 0, 0, LEAST), NONE);
        d.office.later();
        d.counts(0, 0, 50, 255, 3);
        Desk.due("10: of counts, kind 0", d.office.kind(0, 0, 1, 0), 50);
        Desk.due("10: of counts, kind 1", d.office.kind(0, 0, 1, 1), 0);
        Desk.due("10: of counts, kind 2", d.office.kind(0, 0, 1, 2), 0);
        Desk.due("10: what held then", d.office.kind(0, 0, 0, 2), 36);
        Desk.due("10: not counted", d.office.kind(0, 1, 1, 0), NONE);
        Desk.due("10: no entry", d.office.kind(0, 9, 1, 0), NONE);
        d.office.works(0, 2, 3, true);
        Desk.due("10: apart", d.office.kind(0, 2, 1, 0), NONE);
        for (int r : new int[] {-1, 1, 16, LEAST, MOST}) {
            Desk.due("10: road " + r, d.office.kind(r, 0, 1, 0), NONE);
        }
        for (int day : new int[] {-1, 84, LEAST, MOST}) {
            Desk.due("10: day " + day, d.office.kind(0, day, 1, 0), NONE);
        }
        Desk.due("10: no time", d.office.kind(0, 0, -1, 0), NONE);
        d.count(0, 5, 255, 0, 0, 255, 0, 0, 255);
        Desk.due("10: a count beyond 50 has none", d.office.kind(0, 5, 1, 0), NONE);
        d.count(0, 5, 0, 100, 0, 0, 155, 0, 255);
        Desk.due("10: a count of 0 has its kinds", d.office.kind(0, 5, 1, 1), 255);
    }

    // Promise 11
    private static void whole() {
        Desk d = new Desk();
        d.post(0, 0, Desk.days(84, 0));
        d.post(1, 0, Desk.days(83, 1));
        d.post(2, NONE, Desk.days(84, 1));
        Desk.due("11: whole", d.office.whole(0, 0), 1);
        Desk.due("11: a day lacks", d.office.whole(1, 0), 0);
        Desk.due("11: no post", d.office.whole(2, 0), 0);
        Desk.due("11: no road", d.office.whole(3, 0), NONE);
        Desk.due("11: no time", d.office.whole(0, -1), NONE);
        for (int r : new int[] {-1, 16, LEAST, MOST}) {
            Desk.due("11: road " + r, d.office.whole(r, 0), NONE);
        }
        d.office.later();
        d.counts(1, 83, 1);
        Desk.due("11: whole now", d.office.whole(1, 1), 1);
        Desk.due("11: not then", d.office.whole(1, 0), 0);
        d.office.works(0, 83, 84, true);
        Desk.due("11: a day is apart", d.office.whole(0, 1), 0);
        d.office.works(0, 83, 84, false);
        Desk.due("11: not any more", d.office.whole(0, 1), 1);
        d.counts(1, 0, 255);
        Desk.due("11: a day is not counted", d.office.whole(1, 1), 0);
    }

    // Promise 12
    private static void posts() {
        Desk d = new Desk();
        for (int r = 0; r < 5; r++) {
            Desk.due("12: posts", d.office.posts(2, 0), Math.min(r, 4));
            d.post(10 + r, 2, Desk.days(84, 1));
        }
        Desk.due("12: four of five", d.office.posts(2, 0), 4);
        d.post(0, 3, Desk.days(84, 0));
        Desk.due("12: it has some, but is not there", d.office.posts(3, 0), 0);
        d.post(1, 3, Desk.days(84, 1));
        Desk.due("12: one of zeros counts", d.office.posts(3, 0), 2);
        Desk.due("12: none", d.office.posts(0, 0), 0);
        for (int g : new int[] {-1, 4, LEAST, MOST}) {
            Desk.due("12: group " + g, d.office.posts(g, 0), NONE);
        }
        Desk.due("12: no time", d.office.posts(2, -1), NONE);
        d.office.works(10, 0, 1, true);
        Desk.due("12: the fifth comes in", d.office.posts(2, 0), 4);
        d.office.works(11, 0, 1, true);
        Desk.due("12: three", d.office.posts(2, 0), 3);
    }

    // Promise 13
    private static void worth() {
        Desk d = new Desk();
        int[] year = new int[84];
        for (int day = 0; day < 84; day++) {
            year[day] = day % 7 + day / 7;
        }
        d.post(0, 1, year);
        // weekday w: 12 w + (0 + .. + 11); month m: (0 + .. + 6) + 7 m
        for (int day = 0; day < 84; day++) {
            Desk.due("13: day " + day, d.office.worth(1, day, 0), (12L * (day % 7) + 66) * (21 + 7L * (day / 7)));
        }
        d.post(1, 1, Desk.days(84, 1));
        Desk.due("13: of two", d.office.worth(1, 8, 0), (12 + 66 + 12) * (21 + 7 + 7));
        d.post(2, 2, Desk.days(84, 0));
        Desk.refused("13: all are 0", () -> d.office.worth(2, 0, 0));
        Desk.refused("13: no posts", () -> d.office.worth(0, 0, 0));
        for (int g : new int[] {-1, 4, LEAST, MOST}) {
            Desk.refused("13: group " + g, () -> d.office.worth(g, 0, 0));
        }
        for (int day : new int[] {-1, 84, LEAST, MOST}) {
            Desk.refused("13: day " + day, () -> d.office.worth(1, day, 0));
        }
        Desk.refused("13: no time", () -> d.office.worth(1, 0, -1));
    }

    private static void worthOfFirstFour() {
        Desk d = new Desk();
        for (int r = 15; r > 10; r--) {
            d.post(r, 0, Desk.days(84, r == 15 ? 1 : 50));
        }
        Desk.due("13: the first four, by number", d.office.worth(0, 0, 0), 2400 * 1400);
        d.office.works(11, 3, 4, true);
        Desk.due("13: the fifth in place of one", d.office.worth(0, 0, 0), (3 * 600 + 12) * (3 * 350 + 7));
    }

    // Promise 14
    private static void sample() {
        Desk d = new Desk();
        d.post(0, 0, Desk.days(84, 1));
        d.post(1, NONE, Desk.days(84, 1));
        d.road(2, 0, 1);
        d.road(3, 0, 1, 255, 0, 255, 3);
        d.road(4, 0, 1, Desk.days(13, 0));
        Desk.due("14: of a whole post none", d.office.sample(0, 0), 0);
        Desk.due("14: no post", d.office.sample(1, 0), 14);
        Desk.due("14: nothing counted", d.office.sample(2, 0), 0);
        Desk.due("14: two", d.office.sample(3, 0), 2);
        Desk.due("14: 13", d.office.sample(4, 0), 13);
        Desk.due("14: no road", d.office.sample(5, 0), NONE);
        Desk.due("14: no time", d.office.sample(4, -1), NONE);
        for (int r : new int[] {-1, 16, LEAST, MOST}) {
            Desk.due("14: road " + r, d.office.sample(r, 0), NONE);
        }
        d.office.later();
        d.counts(4, 83, 1);
        Desk.due("14: 14", d.office.sample(4, 1), 14);
        Desk.due("14: 13 then", d.office.sample(4, 0), 13);
        d.counts(4, 70, 1);
        Desk.due("14: no more than 14", d.office.sample(4, 1), 14);
        d.office.works(4, 0, 14, true);
        Desk.due("14: days apart are not seen", d.office.sample(4, 1), 2);
        d.office.works(0, 9, 10, true);
        Desk.due("14: a post that is not whole", d.office.sample(0, 1), 14);
    }

    // Promise 15
    private static void fit() {
        Desk d = new Desk();
        d.post(0, 3, Desk.weekly(1, 2, 3, 4, 5, 6, 7));
        d.post(1, 1, Desk.weekly(7, 6, 5, 4, 3, 2, 1));
        d.post(2, 2, Desk.weekly(4, 4, 4, 4, 4, 4, 4));
        d.road(3, 0, 1, 10, 20, 30, 40);
        d.road(4, 0, 1, 40, 30, 20, 10);
        d.road(5, 0, 1);
        int[] rising = {3, 2, 1, NONE, NONE};
        for (int k = 0; k < rising.length; k++) {
            Desk.due("15: rising, " + k, d.office.fit(3, k, 0), rising[k]);
        }
        int[] falling = {1, 2, 3, NONE};
        for (int k = 0; k < falling.length; k++) {
            Desk.due("15: falling, " + k, d.office.fit(4, k, 0), falling[k]);
        }
        Desk.due("15: no sample", d.office.fit(5, 0, 0), NONE);
        Desk.due("15: a whole post", d.office.fit(0, 0, 0), NONE);
        for (int k : new int[] {-1, LEAST, MOST}) {
            Desk.due("15: k " + k, d.office.fit(3, k, 0), NONE);
        }
        for (int r : new int[] {-1, 6, 16, LEAST, MOST}) {
            Desk.due("15: road " + r, d.office.fit(r, 0, 0), NONE);
        }
        Desk.due("15: no time", d.office.fit(3, 0, -1), NONE);
        d.post(6, 0, Desk.weekly(1, 2, 3, 4, 5, 6, 7));
        Desk.due("15: of like ones the lesser ahead", d.office.fit(3, 0, 0), 0);
        Desk.due("15: then the other", d.office.fit(3, 1, 0), 3);
        Desk.due("15: all four", d.office.fit(3, 3, 0), 1);
        Desk.due("15: and no more", d.office.fit(3, 4, 0), NONE);
    }

    /** Fits so near to each other that only whole numbers tell them apart. */
    private static void fitExactly() {
        Desk d = new Desk();
        int[] nearly = Desk.days(84, 50);
        nearly[80] = 49;
        for (int r = 0; r < 4; r++) {
            d.post(r, 0, r == 0 ? nearly : Desk.days(84, 50));
        }
        for (int r = 4; r < 7; r++) {
            d.post(r, 1, Desk.days(84, 50));
        }
        d.road(7, 0, 1, Desk.days(12, 50));
        Desk.due("15: an even group, nearly", d.office.fit(7, 0, 0), 1);
        Desk.due("15: behind the even one", d.office.fit(7, 1, 0), 0);
    }

    /** What a trial leaves behind is no group. */
    private static void fitBehindATrial() {
        Desk d = new Desk();
        d.post(0, 0, Desk.weekly(1, 2, 3, 4, 5, 6, 7));
        d.post(1, 0, Desk.weekly(7, 6, 5, 4, 3, 2, 1));
        d.road(2, 0, 1, 7, 6, 5);
        d.office.trial(0, 0, 0);
        Desk.due("15: the group behind a trial", d.office.fit(2, 0, 0), 0);
        Desk.due("15: it alone", d.office.fit(2, 1, 0), NONE);
        d.dueYear(2, 0, 6 * 84, 1);
    }

    private static void fitOfZeros() {
        Desk d = new Desk();
        d.post(0, 0, Desk.weekly(0, 1, 1, 1, 1, 1, 1));
        d.post(1, 1, Desk.days(84, 1));
        d.road(2, 0, 1, 5);
        Desk.due("15: where all are worth 0 it does not fit", d.office.fit(2, 0, 0), 1);
        Desk.due("15: not at all", d.office.fit(2, 1, 0), NONE);
        d.road(3, 0, 1, 0, 0);
        Desk.due("15: zeros fit all alike", d.office.fit(3, 0, 0), 0);
        Desk.due("15: the next one", d.office.fit(3, 1, 0), 1);
        d.office.works(1, 0, 1, true);
        Desk.due("15: no group that fits", d.office.fit(2, 0, 0), NONE);
        Desk.refused("16: no group that fits", () -> d.office.year(2, 0, 0));
        Desk.due("18: no group that fits", d.office.flow(2, 0), NONE);
    }

    // Promise 16
    private static void year() {
        Desk d = new Desk();
        d.post(0, 0, Desk.days(84, 1));
        d.post(1, 1, Desk.days(84, 0));
        d.road(2, 0, 1, Desk.days(8, 3));
        d.road(3, 0, 1, 1, 2, 0);
        d.road(4, 0, 1, 0, 0, 0, 0, 0, 0, 0, 0, 0, 0, 1);
        d.road(5, 0, 1);
        d.dueYear(0, 0, 84, 1);
        d.dueYear(1, 0, 0, 1);
        d.dueYear(2, 0, 3 * 84, 1);
        d.dueYear(3, 0, 84, 1);
        d.dueYear(4, 0, 84, 11);
        Desk.refused("16: no sample", () -> d.office.year(5, 0, 0));
        Desk.refused("16: no road", () -> d.office.year(6, 0, 0));
        for (int r : new int[] {-1, 16, LEAST, MOST}) {
            Desk.refused("16: road " + r, () -> d.office.year(r, 0, 0));
        }
        for (int what : new int[] {-1, 2, LEAST, MOST}) {
            Desk.refused("16: what " + what, () -> d.office.year(0, 0, what));
        }
        Desk.refused("16: no time", () -> d.office.year(0, -1, 0));
        d.office.later();
        d.counts(3, 3, 1);
        d.office.works(4, 0, 10, true);
        d.dueYear(3, 1, 84, 1);
        d.dueYear(4, 1, 84, 1);
        d.counts(3, 2, 1);
        d.dueYear(3, 1, 105, 1);
        d.dueYear(3, 0, 84, 1);
    }

    /** The greatest numbers that come up on the way, and a sample that ends at 14 days. */
    private static void yearOfManyDays() {
        Desk d = new Desk();
        for (int r = 0; r < 4; r++) {
            d.post(r, 2, Desk.days(84, 50));
        }
        int[] row = Desk.days(84, 50);
        row[14] = 0;
        d.road(4, 0, 1, row);
        d.dueYear(4, 0, 4200, 1);
        d.office.works(4, 0, 1, true);
        d.dueYear(4, 0, 3900, 1);
        d.post(5, 0, Desk.weekly(1, 2, 3, 4, 5, 6, 7));
        d.road(6, 0, 1, 1, 2, 4);
        // worths 12, 24 and 36 times 28; best: 0: a = (12 + 48 + 144) / (144 + 576 + 1296) / 28
        // = 204 / 2016 / 28; year: a times (12 * 28) * (12 * 28) = 204 * 144 * 28 / 2016 = 408
        Desk.due("16: best", d.office.fit(6, 0, 0), 0);
        d.dueYear(6, 0, 408, 1);
    }

    // Promise 17
    private static void trial() {
        Desk d = new Desk();
        d.post(0, 0, Desk.weekly(1, 2, 3, 4, 5, 6, 7));
        Desk.refused("17: no other in the group", () -> d.office.trial(0, 0, 0));
        d.post(1, 1, Desk.weekly(1, 2, 3, 4, 5, 6, 7));
        Desk.refused("17: others do not count", () -> d.office.trial(0, 0, 0));
        d.post(2, 0, Desk.days(84, 0));
        Desk.refused("17: all others are 0", () -> d.office.trial(0, 0, 0));
        d.dueTrial(2, 0, 0, 1);
        d.post(3, 0, Desk.days(84, 1));
        d.dueTrial(0, 0, 28 * 12, 1);
        // worths w times 336, w from 1 to 7: the year is (1 + .. + 7) / (1 + .. + 49) * 336
        d.dueTrial(3, 0, 336, 5);
        int[] late = Desk.days(84, 1);
        for (int day = 0; day < 7; day++) {
            late[day] = 0;
        }
        d.post(4, 1, late);
        Desk.refused("17: it does not fit", () -> d.office.trial(1, 0, 0));
        d.dueTrial(4, 0, 0, 1);
        d.road(5, 0, 1, Desk.days(84, 1));
        Desk.refused("17: no post", () -> d.office.trial(5, 0, 0));
        for (int r : new int[] {-1, 6, 16, LEAST, MOST}) {
            Desk.refused("17: road " + r, () -> d.office.trial(r, 0, 0));
        }
        for (int what : new int[] {-1, 2, LEAST, MOST}) {
            Desk.refused("17: what " + what, () -> d.office.trial(0, 0, what));
        }
        Desk.refused("17: no time", () -> d.office.trial(0, -1, 0));
        d.office.works(0, 83, 84, true);
        Desk.refused("17: not whole", () -> d.office.trial(0, 0, 0));
    }

    private static void trialOfFirstFour() {
        Desk d = new Desk();
        for (int r = 0; r < 4; r++) {
            d.post(r, 0, Desk.days(84, 2));
        }
        d.post(4, 0, Desk.weekly(1, 0, 0, 0, 0, 0, 0));
        d.post(5, 0, Desk.weekly(0, 50, 0, 0, 0, 0, 0));
        // Of the five others the first four: for road 0, these are 1, 2, 3 and 4.
        long[] w = {7, 6, 6, 6, 6, 6, 6};
        long square = 0;
        long product = 0;
        for (long worth : w) {
            square += worth * worth;
            product += 2 * worth;
        }
        long top = product * 43 * 12;
        long shared = java.math.BigInteger.valueOf(top).gcd(java.math.BigInteger.valueOf(square)).longValue();
        d.dueTrial(0, 0, top / shared, square / shared);
        d.dueTrial(4, 0, 12, 1);
        d.dueTrial(5, 0, 600, 1);
        d.post(6, 0, Desk.days(84, 50));
        d.dueTrial(0, 0, top / shared, square / shared);
    }

    // Promise 18
    private static void flow() {
        Desk d = new Desk();
        d.post(0, 0, Desk.days(84, 1));
        d.road(1, 0, 1, 1, 0, 0, 0, 0, 0, 0, 0);
        d.road(2, 0, 1, 1, 0, 0, 0, 0, 0, 0, 0, 0, 0, 0, 0, 0);
        d.road(3, 0, 1, 1, 0, 0, 0, 0, 0, 0, 0, 0, 0, 0);
        d.road(4, 0, 1);
        d.road(5, 0, 1, 0);
        Desk.due("18: of a post", d.office.flow(0, 0), 84);
        Desk.due("18: 10.5, a half up", d.office.flow(1, 0), 11);
        Desk.due("18: 84 by 13", d.office.flow(2, 0), 6);
        Desk.due("18: 84 by 11", d.office.flow(3, 0), 8);
        Desk.due("18: no year", d.office.flow(4, 0), NONE);
        Desk.due("18: 0 is one", d.office.flow(5, 0), 0);
        for (int r : new int[] {-1, 6, 16, LEAST, MOST}) {
            Desk.due("18: road " + r, d.office.flow(r, 0), NONE);
        }
        Desk.due("18: no time", d.office.flow(0, -1), NONE);
        d.office.later();
        d.counts(5, 0, 2);
        Desk.due("18: now", d.office.flow(5, 1), 168);
        Desk.due("18: then", d.office.flow(5, 0), 0);
        Desk.due("18: now again", d.office.flow(5, 1), 168);
        d.count(5, 0, 1, 1, 1, 1, 1, 0, 1);
        Desk.due("18: after a count", d.office.flow(5, 1), 336);
        d.office.works(5, 0, 1, true);
        Desk.due("18: after works", d.office.flow(5, 1), NONE);
    }

    private static void flowAtItsMost() {
        Desk d = Desk.slowStart(10, 1000);
        d.road(1, 4, 0, 1);
        d.dueYear(1, 0, 100000, 1);
        Desk.due("18: 100000", d.office.flow(1, 0), 100000);
        d = Desk.slowStart(251, 1002);
        d.road(1, 4, 0, 25);
        d.dueYear(1, 0, 1002L * 1002 * 25, 251);
        Desk.due("18: rounded to 100000", d.office.flow(1, 0), 100000);
        d = Desk.slowStart(157, 1253);
        d.road(1, 4, 0, 10);
        d.dueYear(1, 0, 1253L * 1253 * 10, 157);
        Desk.due("18: rounded beyond 100000", d.office.flow(1, 0), NONE);
        Desk.due("19: as if it were not there", d.office.missing(0, 0), 0);
        RoadOffice x = d.office;
        Desk.refused("20: it has no flow", () -> x.agreed(1, 0, 0));
    }

    // Promise 19
    private static void missing() {
        Desk d = new Desk();
        d.post(0, 0, Desk.days(84, 1));
        d.road(1, 0, 7, 1);
        d.road(2, 7, 0, 3);
        d.road(3, 0, 3, 5);
        d.road(4, 3, 0);
        long[] due = {-84 + 252 - 420, 0, 0, 420, -84, 84, 0, 84 - 252};
        for (int c = 0; c < 8; c++) {
            Desk.due("19: crossing " + c, d.office.missing(c, 0), due[c]);
        }
        for (int c : new int[] {-1, 8, LEAST, MOST}) {
            Desk.refused("19: crossing " + c, () -> d.office.missing(c, 0));
        }
        Desk.refused("19: no time", () -> d.office.missing(0, -1));
        d.office.later();
        d.counts(4, 0, 1);
        Desk.due("19: now", d.office.missing(3, 1), 336);
        Desk.due("19: then", d.office.missing(3, 0), 420);
    }

    // Promise 20
    private static void agreed() {
        Desk d = new Desk();
        d.post(0, 0, Desk.days(84, 1));
        d.road(1, 4, 0, 1);
        d.dueAgreed(1, 0, 1);
        d.road(2, 0, 5, Desk.days(14, 0));
        // doubts 14 and 1: of 84 too many, each 15th part
        d.dueAgreed(1, 28, 5);
        d.dueAgreed(2, 28, 5);
        d.dueAgreed(0, 84, 1);
        Desk.refused("20: no road", () -> d.office.agreed(3, 0, 0));
        for (int r : new int[] {-1, 16, LEAST, MOST}) {
            Desk.refused("20: road " + r, () -> d.office.agreed(r, 0, 0));
        }
        for (int what : new int[] {-1, 2, LEAST, MOST}) {
            Desk.refused("20: what " + what, () -> d.office.agreed(0, 0, what));
        }
        Desk.refused("20: no time", () -> d.office.agreed(0, -1, 0));
        d.office.later();
        d.counts(2, 0, Desk.days(14, 1));
        Desk.due("20: now as many come as go", d.office.agreed(1, 1, 0), 84);
        Desk.due("20: not then", d.office.agreed(1, 0, 0), 28);
        // A post's doubt is 1, and that of a road of 14 days too.
        d.office.road(3, 0, 6, 1);
        d.counts(3, 0, Desk.days(84, 1));
        Desk.due("20: with a post, upper", d.office.agreed(3, 1, 0), 315);
        Desk.due("20: with a post, lower", d.office.agreed(3, 1, 1), 4);
    }

    /** Parts of the map that nothing leads out of, of two and of three inner crossings. */
    private static void agreedOfClosedParts() {
        Desk d = new Desk();
        d.post(0, 0, Desk.days(84, 1));
        d.road(1, 2, 3, 1);
        d.dueAgreed(1, 0, 1);
        d.road(2, 3, 2, Desk.days(14, 2));
        // doubts 14 and 1, 84 and 168: both are what is nearer to the second
        d.dueAgreed(1, 812, 5);
        d.dueAgreed(2, 812, 5);
        d = new Desk();
        d.post(0, 0, Desk.days(84, 1));
        d.road(1, 0, 1, 1);
        d.road(2, 1, 3, 2);
        d.road(3, 3, 0, 3);
        for (int r = 1; r < 4; r++) {
            d.dueAgreed(r, 168, 1);
        }
        d.road(4, 3, 6, Desk.days(14, 1));
        d.dueAgreed(4, 0, 1);
        d.dueAgreed(1, 168, 1);
        d.road(5, 2, 7, 1);
        d.dueAgreed(5, 0, 1);
    }

    /** Road 0 and the first and last of the outer crossings, in a map of all four inner ones. */
    private static void agreedOfAWholeMap() {
        Desk d = new Desk();
        d.road(0, 3, 4, Desk.days(14, 1));
        d.post(1, 0, Desk.days(84, 1));
        d.road(2, 7, 0, Desk.days(14, 6));
        d.road(3, 0, 1, Desk.days(14, 1));
        d.road(4, 1, 2, Desk.days(14, 1));
        d.road(5, 2, 3, Desk.days(14, 1));
        // five like doubts in a row: all become the mean of 1, 6, 1, 1 and 1, which is 2
        for (int r : new int[] {0, 2, 3, 4, 5}) {
            d.dueAgreed(r, 168, 1);
        }
        d.road(6, 1, 4, Desk.days(14, 0));
        // Let x go on from crossing 1 by way of 2, y by road 6: x = 84 + l / 3, y = l and
        // x + y = 294 - l / 2 (two roads in a row, of 504 and of 84); l = 1260 / 11
        d.dueAgreed(6, 1260, 11);
        d.dueAgreed(0, 1344, 11);
        d.dueAgreed(2, 2604, 11);
        d.dueAgreed(1, 84, 1);
    }

    private static void agreedWithoutSome() {
        Desk d = new Desk();
        d.post(0, 0, Desk.days(84, 1));
        d.road(1, 4, 1, 1);
        d.road(2, 1, 2);
        d.road(3, 2, 5, 1);
        d.dueAgreed(1, 0, 1);
        d.dueAgreed(3, 0, 1);
        d.counts(2, 0, 1);
        d.dueAgreed(1, 84, 1);
        d.dueAgreed(2, 84, 1);
        d.office.works(2, 0, 1, true);
        d.dueAgreed(1, 0, 1);
        Desk.refused("20: without a flow", () -> d.office.agreed(2, 0, 0));
    }

    // Promise 21
    private static void told() {
        Desk d = new Desk();
        d.road(3, 0, 1, 1, 2);
        d.office.road(15, 0, 1, 3);
        d.office.later();
        d.office.later();
        d.office.later();
        d.tape(1, 2, 3, 4, 5);
        Desk.due("21: roads", d.office.told(0), 2);
        Desk.due("21: entries", d.office.told(1), 2);
        Desk.due("21: now", d.office.told(2), 3);
        Desk.due("21: the tape", d.office.told(3), 5);
        for (int what : new int[] {-1, 4, LEAST, MOST}) {
            Desk.due("21: what " + what, d.office.told(what), NONE);
        }
    }

    private static void refusedCallsChangeNothing() {
        Desk d = new Desk();
        d.post(0, 0, Desk.days(84, 1));
        d.tape(1, 2, 3);
        Desk.refused("worth", () -> d.office.worth(3, 0, 0));
        Desk.refused("year", () -> d.office.year(9, 0, 0));
        Desk.refused("trial", () -> d.office.trial(0, 0, 0));
        Desk.refused("missing", () -> d.office.missing(8, 0));
        Desk.refused("agreed", () -> d.office.agreed(9, 0, 0));
        int[] due = {1, 84, 0, 3};
        for (int what = 0; what < 4; what++) {
            Desk.due("told behind an exception", d.office.told(what), due[what]);
        }
        d.dueYear(0, 0, 84, 1);
    }
}

/** Promises 1 to 8: what is told to the office. */
final class BookPromises {
    private static final int NONE = RoadOffice.NONE;
    private static final int LEAST = Desk.LEAST;
    private static final int MOST = Desk.MOST;
    private static final int[] NO_ROADS = {-1, 1, 15, 16, LEAST, MOST};

    private BookPromises() { }

    static void tell(Document document) {
        tellOfTheTape(document);
        tellOfEntries(document);
        tellOfTimesAndWorks(document);
    }

    private static void tellOfTheTape(Document document) {
        document.open("Promise 1:");
        document.sentence("No ROADS, ENTRIES, WORKS;", BookPromises::newObject);
        document.sentence("NOW 0;", BookPromises::newNow);
        document.sentence("an empty tape.", BookPromises::newTape);
        document.open("Promise 2:");
        document.sentence("Twenty bytes come behind the tape, of each number the highest first: how many it has;",
                BookPromises::feed);
        document.sentence("NONE, and none come, if it would have more than 200.", BookPromises::feedTooMany);
        document.open("Promise 3:");
        document.sentence("The tape has its first n bytes alone: true;", BookPromises::end);
        document.sentence("false, if it has not so many,", BookPromises::endBeyond);
        document.sentence("or n is below 0.", BookPromises::endBelowZero);
        document.open("Promise 4:");
        document.sentence("ROAD r, which is none yet, leads from one CROSSING to another one, in a GROUP (NONE: none):"
                + " true;", BookPromises::road);
        document.sentence("false, if it is,", BookPromises::roadTwice);
        document.sentence("or a number is not as told.", BookPromises::roadNotAsTold);
    }

    private static void tellOfEntries(Document document) {
        document.open("Promise 5:");
        document.sentence("An ENTRY: the tape's 7 bytes", BookPromises::countSeven);
        document.sentence("(empty then;", BookPromises::countEmptiesTheTape);
        document.sentence("the KINDS of lane 0, of lane 1, DOUBLES;", BookPromises::countLanes);
        document.sentence("0 to 255)", BookPromises::countBytes);
        document.sentence("are told of a ROAD and DAY: its COUNT;", BookPromises::countAnswer);
        document.sentence("NONE: there are 600,", BookPromises::countBeyond600);
        document.sentence("no such ROAD or DAY,", BookPromises::countNowhere);
        document.sentence("not 7 bytes,", BookPromises::countNotSeven);
        document.sentence("or a COUNT that is not as told.", BookPromises::countNotAsTold);
        document.open("Promise 6:");
        document.sentence("ENTRIES: the tape's bytes", BookPromises::countsMany);
        document.sentence("(empty then)", BookPromises::countsEmptiesTheTape);
        document.sentence("are COUNTS of ROAD r on DAYS from .. on, one each", BookPromises::countsFrom);
        document.sentence("(255: not counted):", BookPromises::countsNotCounted);
        document.sentence("how many came;", BookPromises::countsAnswer);
        document.sentence("NONE, and none come: no such ROAD,", BookPromises::countsNowhere);
        document.sentence("a DAY beyond the YEAR,", BookPromises::countsBeyondTheYear);
        document.sentence("a byte that is not as told,", BookPromises::countsNotAsTold);
        document.sentence("or there would be more than 600.", BookPromises::countsBeyond600);
    }

    private static void tellOfTimesAndWorks(Document document) {
        document.open("Promise 7:");
        document.sentence("NOW goes on by 1: what it is;", BookPromises::later);
        document.sentence("NONE: it is 99.", BookPromises::laterThan99);
        document.open("Promise 8:");
        document.sentence("DAYS from .. to - 1 of ROAD r are apart (on),", BookPromises::worksOn);
        document.sentence("or not any more:", BookPromises::worksOff);
        document.sentence("how many are other than they were;", BookPromises::worksAnswer);
        document.sentence("NONE: no such ROAD,", BookPromises::worksNowhere);
        document.sentence("not 0 <= from <= to <= 84.", BookPromises::worksNotAsTold);
    }

    private static Desk withRoad() {
        Desk d = new Desk();
        d.office.road(0, 0, 1, NONE);
        return d;
    }

    private static void newObject() {
        Desk d = new Desk();
        Desk.due("roads", d.office.told(0), 0);
        Desk.due("entries", d.office.told(1), 0);
        for (int r = 0; r < 16; r++) {
            Desk.due("whole " + r, d.office.whole(r, 0), NONE);
            Desk.due("seen " + r, d.office.seen(r, 0, 0), -4);
        }
        for (int r = 0; r < 16; r++) {
            d.office.road(r, 0, 1, NONE);
            Desk.due("works " + r, d.office.works(r, 0, 84, false), 0);
            Desk.due("first day of " + r, d.office.seen(r, 0, 0), -2);
            Desk.due("last day of " + r, d.office.seen(r, 83, 0), -2);
        }
        Desk other = new Desk();
        Desk.due("of another new object", other.office.told(0), 0);
    }

    private static void newNow() {
        Desk.due("now", new RoadOffice().told(2), 0);
        Desk.due("behind it", new RoadOffice().later(), 1);
    }

    private static void newTape() {
        RoadOffice x = new RoadOffice();
        Desk.due("bytes", x.told(3), 0);
        Desk.due("no first byte", x.end(1), false);
        x.road(0, 0, 1, NONE);
        Desk.due("no counts", x.counts(0, 0), 0);
        Desk.due("no seven bytes", x.count(0, 0), NONE);
        Desk.due("twenty bytes behind it", x.feed(1, 2, 3, 4, 5), 20);
    }

    private static void feed() {
        Desk d = withRoad();
        Desk.due("20", d.office.feed(0x00010203, 0x04050607, 0x08090a0b, 0x0c0d0e0f, 0x10111213), 20);
        Desk.due("40", d.office.feed(0x14151617, 0x18191a1b, 0x1c1d1e1f, 0x20212223, 0x24252627), 40);
        Desk.due("told", d.office.told(3), 40);
        Desk.due("counts", d.office.counts(0, 0), 40);
        for (int day = 0; day < 40; day++) {
            Desk.due("byte " + day, d.office.seen(0, day, 0), day);
        }
        Desk.due("a sign is a bit as others are", d.office.feed(LEAST, 0x00008000, -1, MOST, -1), 20);
        d.office.end(7);
        Desk.due("128 less 128", d.office.count(0, 52), 0);
        Desk.due("128", d.office.kind(0, 52, 0, 0), 128);
        d.office.feed(0, 0x00ffff00, 0, 0, 0);
        d.office.end(7);
        Desk.due("255 less 255", d.office.count(0, 53), 0);
        Desk.due("255", d.office.kind(0, 53, 0, 2), 255);
    }

    private static void feedTooMany() {
        Desk d = withRoad();
        for (int i = 1; i <= 10; i++) {
            Desk.due("feed " + i, d.office.feed(0x01010101, 0, 0, 0, 0x02020202), 20 * i);
        }
        Desk.due("220", d.office.feed(0x03030303, 0, 0, 0, 0), NONE);
        Desk.due("none came", d.office.told(3), 200);
        d.office.end(181);
        Desk.due("201", d.office.feed(0x03030303, 0, 0, 0, 0), NONE);
        Desk.due("none came to 181", d.office.told(3), 181);
        d.office.end(180);
        Desk.due("200", d.office.feed(0x03030303, 0, 0, 0, 0), 200);
        d.office.end(84);
        d.office.counts(0, 0);
        Desk.due("the first stays", d.office.seen(0, 0, 0), 1);
        Desk.due("the 84th too", d.office.seen(0, 83, 0), 1);
        Desk.due("and the 80th", d.office.seen(0, 79, 0), 2);
        d.tape(Desk.days(64, 7));
        d.office.feed(0x09090909, 0x09090909, 0x09090909, 0x09090909, 0x09090909);
        for (int i = 0; i < 5; i++) {
            d.office.feed(0x09090909, 0x09090909, 0x09090909, 0x09090909, 0x09090909);
        }
        Desk.due("184 have no room for 20", d.office.feed(0, 0, 0, 0, 0), NONE);
        d.office.end(84);
        d.office.counts(0, 0);
        Desk.due("the 64th", d.office.seen(0, 63, 0), 7);
        Desk.due("the 65th", d.office.seen(0, 64, 0), 9);
        Desk.due("the last", d.office.seen(0, 83, 0), 9);
    }

    private static void end() {
        Desk d = withRoad();
        Desk.due("0 of an empty tape", d.office.end(0), true);
        d.tape(11, 12, 13, 14, 15);
        Desk.due("all it has", d.office.end(5), true);
        Desk.due("they stay", d.office.told(3), 5);
        Desk.due("the first 2", d.office.end(2), true);
        Desk.due("2 are left", d.office.told(3), 2);
        d.office.feed(0x21222324, 0, 0, 0, 0);
        d.office.end(4);
        d.office.counts(0, 0);
        int[] due = {11, 12, 0x21, 0x22, -2};
        for (int day = 0; day < due.length; day++) {
            Desk.due("byte " + day, d.office.seen(0, day, 0), due[day]);
        }
        for (int i = 0; i < 10; i++) {
            d.office.feed(0, 0, 0, 0, 0);
        }
        Desk.due("all of a full tape", d.office.end(200), true);
        Desk.due("none of it", d.office.end(0), true);
        Desk.due("none is left", d.office.told(3), 0);
    }

    private static void endBeyond() {
        Desk d = withRoad();
        Desk.due("1 of an empty tape", d.office.end(1), false);
        d.tape(11, 12, 13);
        Desk.due("one more than it has", d.office.end(4), false);
        Desk.due("as many as once were fed", d.office.end(20), false);
        Desk.due("far more", d.office.end(MOST), false);
        Desk.due("all stay", d.office.told(3), 3);
        Desk.due("as they were", d.office.counts(0, 0), 3);
        Desk.due("the last of them", d.office.seen(0, 2, 0), 13);
        for (int i = 0; i < 10; i++) {
            d.office.feed(0, 0, 0, 0, 0);
        }
        Desk.due("201", d.office.end(201), false);
        Desk.due("200 stay", d.office.told(3), 200);
    }

    private static void endBelowZero() {
        Desk d = withRoad();
        Desk.due("-1 of an empty tape", d.office.end(-1), false);
        d.tape(11, 12, 13);
        Desk.due("-1", d.office.end(-1), false);
        Desk.due("the least", d.office.end(LEAST), false);
        Desk.due("all stay", d.office.told(3), 3);
    }

    private static void road() {
        Desk d = new Desk();
        Desk.due("with a group", d.office.road(15, 7, 3, 3), true);
        Desk.due("without", d.office.road(0, 3, 7, NONE), true);
        Desk.due("two more", d.office.told(0), 2);
        d.counts(15, 0, Desk.days(84, 2));
        d.counts(0, 0, 1);
        Desk.due("a post of its group", d.office.posts(3, 0), 1);
        Desk.due("it leads to", d.office.missing(3, 0), 168 - 84);
        Desk.due("it leads from", d.office.missing(7, 0), 84 - 168);
        Desk.due("along another one", d.office.road(1, 3, 7, NONE), true);
    }

    private static void roadTwice() {
        Desk d = new Desk();
        d.office.road(5, 4, 0, 0);
        d.counts(5, 0, Desk.days(84, 1));
        Desk.due("the same", d.office.road(5, 4, 0, 0), false);
        Desk.due("another way", d.office.road(5, 1, 2, 3), false);
        Desk.due("without a group", d.office.road(5, 4, 0, NONE), false);
        Desk.due("still one", d.office.told(0), 1);
        Desk.due("in its group", d.office.posts(0, 0), 1);
        Desk.due("in no other", d.office.posts(3, 0), 0);
        Desk.due("to where it led", d.office.missing(0, 0), 84);
        Desk.due("and not elsewhere", d.office.missing(2, 0), 0);
    }

    private static void roadNotAsTold() {
        RoadOffice x = new RoadOffice();
        for (int wrong : new int[] {-1, -2, LEAST, MOST, 16}) {
            Desk.due("road " + wrong, x.road(wrong, 0, 1, 0), false);
            Desk.due("from " + wrong, x.road(0, wrong, 1, 0), false);
            Desk.due("to " + wrong, x.road(0, 0, wrong, 0), false);
            Desk.due("group " + wrong, x.road(0, 0, 1, wrong), wrong == NONE);
            x = new RoadOffice();
        }
        Desk.due("from 8", x.road(0, 8, 1, 0), false);
        Desk.due("to 8", x.road(0, 0, 8, 0), false);
        Desk.due("group 4", x.road(0, 0, 1, 4), false);
        Desk.due("to where it is from", x.road(0, 6, 6, 0), false);
        Desk.due("no roads", x.told(0), 0);
        Desk.due("the greatest of all", x.road(15, 7, 6, 3), true);
        Desk.due("the least of all", x.road(0, 0, 1, 0), true);
    }

    private static void countSeven() {
        Desk d = withRoad();
        Desk.due("seven", d.count(0, 9, 1, 2, 3, 4, 5, 6, 1), 20);
        Desk.due("one entry", d.office.told(1), 1);
        Desk.due("it holds", d.office.seen(0, 9, 0), 20);
        Desk.due("the day ahead", d.office.seen(0, 8, 0), -2);
        Desk.due("the day behind", d.office.seen(0, 10, 0), -2);
    }

    private static void countEmptiesTheTape() {
        Desk d = withRoad();
        d.count(0, 0, 1, 2, 3, 4, 5, 6, 1);
        Desk.due("an entry", d.office.told(3), 0);
        d.count(0, 0, 1, 2, 3, 4, 5, 6, 22);
        Desk.due("a count that is not as told", d.office.told(3), 0);
        d.count(0, 0, 1, 2, 3, 4, 5, 6);
        Desk.due("not seven", d.office.told(3), 0);
        d.count(0, 84, 1, 2, 3, 4, 5, 6, 7);
        Desk.due("no such day", d.office.told(3), 0);
        d.count(1, 0, 1, 2, 3, 4, 5, 6, 7);
        Desk.due("no such road", d.office.told(3), 0);
        Desk.due("twenty then", d.office.feed(0, 0, 0, 0, 0), 20);
    }

    private static void countLanes() {
        Desk d = withRoad();
        d.count(0, 0, 1, 2, 4, 8, 16, 32, 20);
        Desk.due("1 and 8", d.office.kind(0, 0, 0, 0), 9);
        Desk.due("2 and 16", d.office.kind(0, 0, 0, 1), 18);
        Desk.due("4 and 32", d.office.kind(0, 0, 0, 2), 36);
        Desk.due("less 20", d.office.seen(0, 0, 0), 43);
    }

    private static void countBytes() {
        Desk d = withRoad();
        for (int i = 0; i < 6; i++) {
            int[] row = new int[7];
            row[i] = 255;
            row[6] = 255;
            Desk.due("255 at " + i, d.count(0, i, row), 0);
            Desk.due("its kind", d.office.kind(0, i, 0, i % 3), 255);
            row[i] = 0;
            row[6] = 0;
            Desk.due("0 at " + i, d.count(0, i, row), 0);
            Desk.due("its kind then", d.office.kind(0, i, 0, i % 3), 0);
        }
        Desk.due("255 and 50 of one kind", d.count(0, 6, 255, 0, 0, 50, 0, 0, 255), 50);
        Desk.due("more than a byte", d.office.kind(0, 6, 0, 0), 305);
    }

    private static void countAnswer() {
        Desk d = withRoad();
        d.office.road(15, 0, 1, NONE);
        Desk.due("0", d.count(0, 0, 0, 0, 0, 0, 0, 0, 0), 0);
        Desk.due("50", d.count(15, 83, 0, 0, 25, 25, 0, 0, 0), 50);
        Desk.due("of its road and day", d.office.seen(0, 0, 0), 0);
        Desk.due("of the other", d.office.seen(15, 83, 0), 50);
        Desk.due("not of others", d.office.seen(0, 83, 0), -2);
        Desk.due("two", d.office.told(1), 2);
        d.post(1, 0, Desk.days(84, 1));
        Desk.due("what follows ahead of a count", d.office.flow(15, 0), 4200);
        d.count(15, 83, 1, 1, 1, 0, 0, 0, 1);
        Desk.due("what follows behind it", d.office.flow(15, 0), 168);
    }

    /** Road 0 has told so many entries, in rows of 84 as far as they go. */
    private static Desk withEntries(int many) {
        Desk d = withRoad();
        for (int i = 0; i < many; i += 84) {
            d.counts(0, 0, Desk.days(Math.min(84, many - i), 1));
        }
        Desk.due("entries", d.office.told(1), many);
        return d;
    }

    private static void countBeyond600() {
        Desk d = withEntries(599);
        Desk.due("the 600th", d.count(0, 0, 5, 0, 0, 0, 0, 0, 0), 5);
        Desk.due("the 601st", d.count(0, 0, 6, 0, 0, 0, 0, 0, 0), NONE);
        Desk.due("600", d.office.told(1), 600);
        Desk.due("the 600th holds", d.office.seen(0, 0, 0), 5);
        Desk.due("its kind too", d.office.kind(0, 0, 0, 0), 5);
    }

    private static void countNowhere() {
        Desk d = withRoad();
        for (int r : NO_ROADS) {
            Desk.due("road " + r, d.count(r, 0, 1, 0, 0, 0, 0, 0, 0), NONE);
        }
        for (int day : new int[] {-1, 84, LEAST, MOST}) {
            Desk.due("day " + day, d.count(0, day, 1, 0, 0, 0, 0, 0, 0), NONE);
        }
        Desk.due("no entry", d.office.told(1), 0);
        Desk.due("day 83", d.count(0, 83, 1, 0, 0, 0, 0, 0, 0), 1);
        Desk.due("day 0", d.count(0, 0, 1, 0, 0, 0, 0, 0, 0), 1);
    }

    private static void countNotSeven() {
        Desk d = withRoad();
        for (int n = 0; n < 16; n++) {
            Desk.due(n + " bytes", d.count(0, 0, new int[n]), n == 7 ? 0 : NONE);
        }
        Desk.due("200 bytes", d.count(0, 0, new int[200]), NONE);
        Desk.due("one entry", d.office.told(1), 1);
    }

    private static void countNotAsTold() {
        Desk d = withRoad();
        d.counts(0, 0, 9);
        Desk.due("-1", d.count(0, 0, 1, 1, 1, 1, 1, 1, 7), NONE);
        Desk.due("51", d.count(0, 0, 9, 9, 9, 9, 9, 9, 3), NONE);
        Desk.due("1530", d.count(0, 0, 255, 255, 255, 255, 255, 255, 0), NONE);
        Desk.due("-255", d.count(0, 0, 0, 0, 0, 0, 0, 0, 255), NONE);
        Desk.due("what held holds", d.office.seen(0, 0, 0), 9);
        Desk.due("one entry", d.office.told(1), 1);
        Desk.due("0", d.count(0, 0, 1, 1, 1, 1, 1, 1, 6), 0);
        Desk.due("50", d.count(0, 0, 9, 9, 9, 9, 9, 9, 4), 50);
    }

    private static void countsMany() {
        for (int n : new int[] {0, 1, 7, 20, 83, 84}) {
            Desk d = withRoad();
            Desk.due(n + " bytes", d.counts(0, 0, Desk.days(n, 3)), n);
            Desk.due("so many entries", d.office.told(1), n);
            Desk.due("the last", d.office.seen(0, Math.max(0, n - 1), 0), n == 0 ? -2 : 3);
            Desk.due("none behind it", d.office.seen(0, n, 0), n == 84 ? -4 : -2);
        }
    }

    private static void countsEmptiesTheTape() {
        Desk d = withRoad();
        d.counts(0, 0, 1, 2);
        Desk.due("entries", d.office.told(3), 0);
        d.counts(1, 0, 1, 2);
        Desk.due("no such road", d.office.told(3), 0);
        d.counts(0, 83, 1, 2);
        Desk.due("beyond the year", d.office.told(3), 0);
        d.counts(0, 0, 1, 51);
        Desk.due("a byte that is not as told", d.office.told(3), 0);
        d = withEntries(600);
        d.counts(0, 0, 1, 2);
        Desk.due("more than 600", d.office.told(3), 0);
        d.count(0, 0, 1, 0, 0, 0, 0, 0, 0);
        Desk.due("more than 600 by count", d.office.told(3), 0);
    }

    private static void countsFrom() {
        Desk d = withRoad();
        d.office.road(1, 0, 1, NONE);
        Desk.due("three", d.counts(1, 40, 5, 6, 7), 3);
        int[] due = {-2, 5, 6, 7, -2};
        for (int i = 0; i < due.length; i++) {
            Desk.due("day " + (39 + i), d.office.seen(1, 39 + i, 0), due[i]);
            Desk.due("of another road, day " + (39 + i), d.office.seen(0, 39 + i, 0), -2);
        }
        Desk.due("the first day", d.counts(0, 0, 1), 1);
        Desk.due("the last day", d.counts(0, 83, 2), 1);
        Desk.due("day 0", d.office.seen(0, 0, 0), 1);
        Desk.due("day 83", d.office.seen(0, 83, 0), 2);
    }

    private static void countsNotCounted() {
        Desk d = withRoad();
        Desk.due("gaps come too", d.counts(0, 0, 255, 0, 255), 3);
        Desk.due("a gap", d.office.seen(0, 0, 0), NONE);
        Desk.due("a count of 0", d.office.seen(0, 1, 0), 0);
        Desk.due("a gap at the end", d.office.seen(0, 2, 0), NONE);
        Desk.due("a gap has no kinds", d.office.kind(0, 0, 0, 0), NONE);
        Desk.due("three entries", d.office.told(1), 3);
    }

    private static void countsAnswer() {
        Desk d = withRoad();
        Desk.due("none", d.counts(0, 0), 0);
        Desk.due("none at the end of the year", d.counts(0, 84), 0);
        Desk.due("no entries", d.office.told(1), 0);
        Desk.due("all days", d.counts(0, 0, Desk.days(84, 255)), 84);
        Desk.due("one", d.counts(0, 0, 1), 1);
    }

    private static void countsNowhere() {
        Desk d = withRoad();
        for (int r : NO_ROADS) {
            Desk.due("road " + r, d.counts(r, 0, 1), NONE);
            Desk.due("no bytes of road " + r, d.counts(r, 0), NONE);
        }
        Desk.due("none came", d.office.told(1), 0);
    }

    private static void countsBeyondTheYear() {
        Desk d = withRoad();
        Desk.due("day 84", d.counts(0, 84, 1), NONE);
        Desk.due("days 83 and 84", d.counts(0, 83, 1, 2), NONE);
        Desk.due("85 days", d.counts(0, 0, Desk.days(85, 1)), NONE);
        Desk.due("200 days", d.counts(0, 0, Desk.days(200, 1)), NONE);
        Desk.due("day -1", d.counts(0, -1, 1, 2), NONE);
        for (int from : new int[] {LEAST, LEAST + 1, MOST - 1, MOST}) {
            Desk.due("day " + from, d.counts(0, from, 1, 2, 3), NONE);
            Desk.due("no bytes from day " + from, d.counts(0, from), NONE);
        }
        Desk.due("none came", d.office.told(1), 0);
        Desk.due("day 83 did not", d.office.seen(0, 83, 0), -2);
        Desk.due("day 0 did not", d.office.seen(0, 0, 0), -2);
        Desk.due("days 82 and 83", d.counts(0, 82, 1, 2), 2);
    }

    private static void countsNotAsTold() {
        Desk d = withRoad();
        for (int wrong : new int[] {51, 52, 127, 128, 253, 254}) {
            Desk.due(wrong + " first", d.counts(0, 0, wrong, 1, 2), NONE);
            Desk.due(wrong + " last", d.counts(0, 0, 1, 2, wrong), NONE);
            Desk.due(wrong + " as the 84th", d.counts(0, 0, lastOf84(wrong)), NONE);
        }
        Desk.due("none came", d.office.told(1), 0);
        Desk.due("not the first either", d.office.seen(0, 0, 0), -2);
        Desk.due("0, 50 and 255", d.counts(0, 0, 0, 50, 255), 3);
        d.tape(1, 2, 51, 255, 254);
        d.office.end(2);
        Desk.due("bytes that the tape has no more", d.office.counts(0, 3), 2);
    }

    private static int[] lastOf84(int last) {
        int[] row = Desk.days(84, 1);
        row[83] = last;
        return row;
    }

    private static void countsBeyond600() {
        Desk d = withEntries(598);
        d.office.later();
        Desk.due("to the 601st", d.counts(0, 81, 7, 8, 9), NONE);
        Desk.due("none came", d.office.told(1), 598);
        Desk.due("not the first either", d.office.seen(0, 81, 1), 1);
        Desk.due("to the 600th", d.counts(0, 81, 7, 8), 2);
        Desk.due("600", d.office.told(1), 600);
        Desk.due("one more", d.counts(0, 83, 9), NONE);
        Desk.due("a gap more", d.counts(0, 83, 255), NONE);
        Desk.due("none more", d.counts(0, 83), 0);
        Desk.due("the 600th holds", d.office.seen(0, 82, 1), 8);
        Desk.due("and behind it what held", d.office.seen(0, 83, 1), 1);
    }

    private static void later() {
        RoadOffice x = new RoadOffice();
        for (int i = 1; i <= 99; i++) {
            Desk.due("later", x.later(), i);
            Desk.due("told", x.told(2), i);
        }
    }

    private static void laterThan99() {
        Desk d = withRoad();
        for (int i = 1; i <= 98; i++) {
            d.office.later();
        }
        d.counts(0, 0, 1);
        Desk.due("98 is not it", d.office.later(), 99);
        d.counts(0, 0, 2);
        Desk.due("it is 99", d.office.later(), NONE);
        Desk.due("again", d.office.later(), NONE);
        Desk.due("it stays", d.office.told(2), 99);
        d.counts(0, 0, 3);
        Desk.due("as of 98", d.office.seen(0, 0, 98), 1);
        Desk.due("the last as of 99", d.office.seen(0, 0, 99), 3);
        Desk.due("as of 100", d.office.seen(0, 0, 100), 3);
    }

    private static void worksOn() {
        Desk d = withRoad();
        d.office.road(1, 0, 1, NONE);
        d.counts(0, 0, Desk.days(84, 1));
        d.office.works(0, 0, 1, true);
        d.office.works(0, 83, 84, true);
        d.office.works(0, 40, 43, true);
        for (int day : new int[] {0, 83, 40, 41, 42}) {
            Desk.due("apart: " + day, d.office.seen(0, day, 0), -3);
        }
        for (int day : new int[] {1, 82, 39, 43}) {
            Desk.due("not apart: " + day, d.office.seen(0, day, 0), 1);
        }
        Desk.due("not of another road", d.office.seen(1, 0, 0), -2);
        d.office.later();
        Desk.due("later too", d.office.seen(0, 0, 1), -3);
    }

    private static void worksOff() {
        Desk d = withRoad();
        d.counts(0, 0, Desk.days(84, 1));
        d.office.works(0, 0, 84, true);
        d.counts(0, 10, 5);
        d.office.works(0, 10, 12, false);
        Desk.due("ahead of them", d.office.seen(0, 9, 0), -3);
        Desk.due("what was told when it was apart", d.office.seen(0, 10, 0), 5);
        Desk.due("what was told ahead of it", d.office.seen(0, 11, 0), 1);
        Desk.due("behind them", d.office.seen(0, 12, 0), -3);
    }

    private static void worksAnswer() {
        Desk d = withRoad();
        Desk.due("none was apart", d.office.works(0, 0, 84, false), 0);
        Desk.due("all of them", d.office.works(0, 10, 20, true), 10);
        Desk.due("the same again", d.office.works(0, 10, 20, true), 0);
        Desk.due("some of them", d.office.works(0, 15, 25, true), 5);
        Desk.due("no days", d.office.works(0, 30, 30, true), 0);
        Desk.due("off again, with others", d.office.works(0, 0, 84, false), 15);
        Desk.due("the whole year", d.office.works(0, 0, 84, true), 84);
        Desk.due("no entries", d.office.told(1), 0);
    }

    private static void worksNowhere() {
        Desk d = withRoad();
        for (int r : NO_ROADS) {
            Desk.due("road " + r, d.office.works(r, 0, 1, true), NONE);
            Desk.due("no days of road " + r, d.office.works(r, 0, 0, true), NONE);
        }
        d.office.road(1, 0, 1, NONE);
        Desk.due("it has no works from then", d.office.works(1, 0, 84, false), 0);
    }

    private static void worksNotAsTold() {
        Desk d = withRoad();
        int[][] wrong = {{-1, 0}, {-1, 84}, {1, 0}, {84, 83}, {0, 85}, {84, 85}, {85, 85}, {85, 84}, {-1, -1},
            {LEAST, MOST}, {MOST, LEAST}, {LEAST, LEAST}, {MOST, MOST}, {0, LEAST}, {0, MOST}, {LEAST, 84}};
        for (int[] w : wrong) {
            Desk.due(w[0] + " to " + w[1] + " on", d.office.works(0, w[0], w[1], true), NONE);
        }
        Desk.due("nothing is apart", d.office.works(0, 0, 84, false), 0);
        Desk.due("0 to 0", d.office.works(0, 0, 0, true), 0);
        Desk.due("84 to 84", d.office.works(0, 84, 84, true), 0);
        Desk.due("0 to 84", d.office.works(0, 0, 84, true), 84);
        for (int[] w : wrong) {
            Desk.due(w[0] + " to " + w[1] + " off", d.office.works(0, w[0], w[1], false), NONE);
        }
        Desk.due("all are apart", d.office.works(0, 0, 84, true), 0);
    }
}

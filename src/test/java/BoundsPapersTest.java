/** Promises 1 to 21: each sentence that names a boundary case has a test of its own. */
public final class BoundsPapersTest {
    private static final int NONE = DoorOffice.NONE;
    private static final int LAST = 109574;
    private static final int LEAST_INT = Integer.MIN_VALUE;
    private static final int MOST_INT = Integer.MAX_VALUE;
    private static final Checks c = new Checks();

    public static void main(String[] args) {
        newObject();
        feedBehind();
        feedHighestFirst();
        feedTooMany();
        endFirstBytesAlone();
        endTooMany();
        takeWhatOutHas();
        dayBeforeToday();
        asNone();
        townIsNoPaper();
        shortenTakenAnew();
        shortenWordsOfNames();
        streetInJoinedTown();
        streetSecondNames();
        streetRoom();
        doorNumbers();
        doorRefusals();
        doorSecondPlaces();
        doorRoom();
        spansRoom();
        cornerRefusals();
        cornerFromItsDayOn();
        cornerRoom();
        underRefusals();
        underSecondOnes();
        underRoom();
        goneWithAllUnder();
        goneRefusals();
        renumberRefusals();
        renumberRoom();
        renameRefusals();
        joinRefusals();
        joinSecondNames();
        rowsOfPairs();
        rowRefusals();
        rowIsNoPaper();
        rowOfEachSide();
        rowLongerThanDoors();
        namesWithoutEnd();
        tearBehindN();
        tearBurnt();
        tearRefusals();
        undoLatest();
        undoNone();
        imagePlaces();
        backToNone();
        backAsItWas();
        c.finish();
    }

    private static void newObject() {
        c.sentence("1: Nothing there; TODAY is 0");
        for (int what = 0; what <= 10; what++) {
            c.due("count(" + what + ")", new DoorOffice().count(what), 0);
        }
        for (int what = 100; what <= 124; what++) {
            c.due("count(" + what + ")", new DoorOffice().count(what), NONE);
        }
        DoorOffice x = new DoorOffice();
        c.due("take", x.take(), 0);
        c.due("street", Checks.street(x, "elm", 0, 0, 0), -1);
        c.due("door", x.door(0, 0, 0, 0, 0), -1);
        c.due("corner", x.corner(0, 0, 0, 0, 0, 0), -1);
        c.due("under", x.under(2, 0, 0, 0), -1);
        c.due("gone", x.gone(0, 0), -1);
        c.due("renumber", x.renumber(0, 0, 0), -1);
        c.due("rename", Checks.rename(x, "elm", 0, 0), -1);
        c.due("join", x.join(0, 1, 0), -1);
        c.due("row", Checks.tell(x, "ab").row(0, 0), -1);
        c.due("tear", x.tear(0, 0, 0), NONE);
        c.due("undo", x.undo(), NONE);
        for (int place = 0; place < 3; place++) {
            c.due("back", x.back(place), false);
        }
        c.due("number", x.number(0, 0, 0, 0), NONE);
        c.due("write", x.write(0, 0, 0), NONE);
        c.due("means", Checks.means(x, "elm 1, old", 0), 0);
        c.due("call", Checks.call(x, "elm 1, old", LAST), NONE);
        c.due("letter", Checks.letter(x, "elm 1, old", 0), -1);
        c.due("twice of streets", x.twice(0, 0, 1), -1);
        c.due("twice of towns", x.twice(1, 0, 1), -1);
        c.due("free", x.free(0, 0, 0), -1);
        c.due("stop", x.stop(0, 0), -1);
        c.due("walk", x.walk(0), 0);
        c.due("list", x.list(0), 0);
        c.due("check", x.check(0), NONE);
        c.due("two objects are two offices", Checks.town(x, "old"), 0);
        c.due("two objects are two offices", Checks.town(new DoorOffice(), "old"), 0);
    }

    private static void feedBehind() {
        c.sentence("2: Twenty bytes come behind those on the tape: how many there are");
        DoorOffice x = new DoorOffice();
        c.due("behind none", x.feed(0x61626364, 0x65666768, 0x696a6b6c, 0x6d6e6f70, 0x71727374), 20);
        c.due("end", x.end(5), true);
        c.due("behind five", x.feed(0x20786162, 0, 0, 0, 0), 25);
        x.end(9);
        c.due("the town of nine bytes", x.town(), 0);
        c.due("abcde xab", Checks.town(x, "abcde xab"), -5);
        c.due("the tape that went has none", x.feed(1, 2, 3, 4, 5), 20);
    }

    private static void feedHighestFirst() {
        c.sentence("2: of each number the highest first");
        DoorOffice x = Checks.withStreet(3);
        for (int i = 0; i < 10; i++) {
            x.door(0, 0, i, 0, 0);
        }
        x.feed(0x00100111, 0x02120313, 0x04140515, 0x06160717, 0x0818f919);
        c.due("ten wholes", x.row(0, 0), 10);
        c.due("given", x.renumber(0, 3, 0), 9);
        int[] wholes = {0x10, 0x111, 0x212, 0x313, 0x414, 0x515, 0x616, 0x717, 0x818, 0xf919};
        for (int i = 0; i < 10; i++) {
            c.due("door " + i, x.number(i, 0, 0, 0), wholes[i]);
        }
    }

    private static void feedTooMany() {
        c.sentence("2: NONE, doing nothing, if there would be more than 1200");
        DoorOffice x = new DoorOffice();
        for (int i = 1; i <= 60; i++) {
            c.due("feed " + i, x.feed(i, i, i, i, i), 20 * i);
        }
        for (int n : new int[] {1200, 1199, 1190, 1181}) {
            x.end(n);
            c.due("feed behind " + n, x.feed(1, 1, 1, 1, 1), NONE);
            c.due("count", x.count(10), n);
        }
        x.end(1180);
        c.due("feed behind 1180", x.feed(1, 1, 1, 1, 1), 1200);
        Checks.tell(x, "old").town();
        Checks.tell(x, "elm").street(0, 3, 0);
        for (int i = 0; i < 61; i++) {
            x.feed(i, i, i, i, i);
        }
        c.due("the whole tape is a row of 600 wholes", x.row(0, 0), 600);
    }

    private static void endFirstBytesAlone() {
        c.sentence("3: The tape has its first n bytes alone: true");
        DoorOffice x = new DoorOffice();
        c.due("none of none", x.end(0), true);
        x.feed(0x61626364, 0x65666768, 0, 0, 0);
        c.due("all", x.end(20), true);
        c.due("count", x.count(10), 20);
        c.due("three", x.end(3), true);
        c.due("count", x.count(10), 3);
        c.due("abc is a town", x.town(), 0);
        c.due("it is abc", Checks.town(x, "abc"), -5);
        x.feed(0x61626364, 0, 0, 0, 0);
        c.due("none", x.end(0), true);
        c.due("count", x.count(10), 0);
    }

    private static void endTooMany() {
        c.sentence("3: false, doing nothing, if it has not so many, or n is below 0");
        DoorOffice x = new DoorOffice();
        c.due("one of none", x.end(1), false);
        x.feed(0, 0, 0, 0, 0);
        x.end(7);
        for (int n : new int[] {8, 20, 1200, -1, LEAST_INT, MOST_INT}) {
            c.due("end(" + n + ")", x.end(n), false);
            c.due("count", x.count(10), 7);
        }
    }

    private static void takeWhatOutHas() {
        c.sentence("4: The tape has what OUT has: how many bytes");
        DoorOffice x = Checks.withStreet(3);
        Checks.tell(x, "some text that is longer than OUT");
        c.due("OUT is empty", x.take(), 0);
        c.due("the tape is, too", x.count(10), 0);
        x.door(0, 0, 10, 0, 0);
        x.write(0, 0, 0);
        Checks.tell(x, "xx");
        c.due("ten", x.take(), 10);
        c.due("read", x.means(0), 1);
        x.list(0);
        c.due("six", x.take(), 6);
        c.due("six again", x.take(), 6);
        c.due("checked", x.check(0), NONE);
    }

    private static void dayBeforeToday() {
        c.sentence("5: TODAY is a day: true; false, doing nothing, if it is before TODAY, or none");
        DoorOffice x = new DoorOffice();
        c.due("the same day", x.day(0), true);
        c.due("a later day", x.day(100), true);
        c.due("the same day", x.day(100), true);
        for (int day : new int[] {99, 0, -1, LAST + 1, LEAST_INT, MOST_INT}) {
            c.due("day(" + day + ")", x.day(day), false);
            c.due("TODAY", x.count(5), 100);
        }
        c.due("the next day", x.day(101), true);
        c.due("the last day", x.day(LAST), true);
        c.due("the last day again", x.day(LAST), true);
        c.due("the day behind it", x.day(LAST + 1), false);
    }

    private static void asNone() {
        c.sentence("6: AS KNOWN on a day (NONE: all PAPERS being there): true; false, doing nothing, if it is none");
        DoorOffice x = Checks.withStreet(0);
        x.day(5);
        x.door(0, 0, 10, 0, 0);
        c.due("a day ahead", x.as(4), true);
        for (int day : new int[] {-2, LAST + 1, LEAST_INT, MOST_INT}) {
            c.due("as(" + day + ")", x.as(day), false);
            c.due("as known ahead", x.stands(0, 0), false);
        }
        c.due("the day", x.as(5), true);
        c.due("known", x.stands(0, 0), true);
        c.due("as(-2) again", x.as(-2), false);
        c.due("still known", x.stands(0, 0), true);
        c.due("a day before TODAY may be asked", x.as(0), true);
        c.due("TODAY stays", x.count(5), 5);
        c.due("NONE", x.as(NONE), true);
        c.due("all papers", x.stands(0, 0), true);
    }

    private static void townIsNoPaper() {
        c.sentence("7: a new town (no PAPER): its number");
        DoorOffice x = new DoorOffice();
        c.due("first", Checks.town(x, "old"), 0);
        c.due("second", Checks.town(x, "new"), 1);
        c.due("no papers", x.count(3), 0);
        c.due("none to take back", x.undo(), NONE);
        c.due("both are there", x.count(0), 2);
        x.day(9);
        Checks.town(x, "far");
        Checks.street(x, "elm", 2, 0, 0);
        x.door(0, 0, 10, 0, 0);
        x.as(9);
        c.due("a town is there as known on any day", Checks.means(x, "elm 1, far", 0), 1);
    }

    private static int shorten(DoorOffice x, String text) {
        return Checks.tell(x, text).shorten();
    }

    private static void shortenTakenAnew() {
        c.sentence("8: (no PAPER; taken anew if it is there): how many there are");
        DoorOffice x = new DoorOffice();
        c.due("one", shorten(x, "st street"), 1);
        c.due("two", shorten(x, "rd road"), 2);
        c.due("the first anew", shorten(x, "st stairs"), 2);
        c.due("no papers", x.count(3), 0);
        Checks.town(x, "st");
        c.due("read anew", Checks.town(x, "stairs"), -5);
        c.due("not as before", Checks.town(x, "street"), 1);
        c.due("the second stays", Checks.town(x, "rd"), 2);
        c.due("the second stays", Checks.town(x, "road"), -5);
    }

    private static void shortenWordsOfNames() {
        c.sentence("8: -5 the first WORD is one of a NAME (of a town, or that a street had, has or will have)");
        DoorOffice x = new DoorOffice();
        Checks.town(x, "one two three");
        Checks.town(x, "gap");
        Checks.street(x, "four five six", 0, 0, 0);
        Checks.rename(x, "seven", 0, 10);
        Checks.rename(x, "eight", 0, LAST);
        x.as(0);
        for (String word : new String[] {"one", "two", "three", "gap", "four", "five", "six", "seven", "eight"}) {
            c.due("of a name: " + word, shorten(x, word + " x"), -5);
        }
        c.due("none", x.count(6), 0);
        c.due("what it is for may be of a name", shorten(x, "x one"), 1);
        c.due("two words of a name are no word", shorten(x, "onetwo x"), 2);
        x.undo();
        c.due("of a paper taken back", shorten(x, "eight x"), 3);
        c.due("read so", Checks.rename(x, "eight", 0, 20), 1);
        c.due("one that a short form was for is of a name", shorten(x, "x y"), -5);
        x.join(1, 0, 20);
        c.due("of a town that was joined", shorten(x, "two x"), -5);
    }

    private static void streetInJoinedTown() {
        c.sentence("9: -1 (also of a town that was joined to another one)");
        DoorOffice x = new DoorOffice();
        Checks.town(x, "old");
        Checks.town(x, "new");
        for (int town : new int[] {-1, 2, LEAST_INT, MOST_INT}) {
            c.due("town " + town, Checks.street(x, "elm", town, 0, 0), -1);
        }
        x.join(0, 1, 50);
        c.due("a joined one, from that day on", Checks.street(x, "elm", 1, 0, 50), -1);
        c.due("a joined one, ahead of that day", Checks.street(x, "elm", 1, 0, 0), -1);
        c.due("the one it was joined to", Checks.street(x, "elm", 0, 0, 50), 0);
        x.undo();
        x.undo();
        c.due("taken back", Checks.street(x, "elm", 1, 0, 0), 0);
    }

    private static void streetSecondNames() {
        c.sentence("9: -5 on some day from FROM on a street of that town has that NAME");
        DoorOffice x = new DoorOffice();
        Checks.town(x, "old");
        Checks.town(x, "new");
        Checks.street(x, "elm", 0, 0, 10);
        Checks.rename(x, "oak", 0, 20);
        c.due("on its last day", Checks.street(x, "elm", 0, 0, 19), -5);
        c.due("ahead of its first day", Checks.street(x, "elm", 0, 0, 0), -5);
        c.due("oak, ahead of its first day", Checks.street(x, "oak", 0, 0, 0), -5);
        c.due("oak, on the last day", Checks.street(x, "oak", 0, 0, LAST), -5);
        c.due("in another town", Checks.street(x, "oak", 1, 0, 0), 1);
        c.due("from the day on from which it has it no more", Checks.street(x, "elm", 0, 0, 20), 2);
        c.due("on the last day alone", Checks.street(x, "ash", 0, 0, LAST), 3);
        c.due("that one is in the way, too", Checks.street(x, "ash", 0, 0, 0), -5);
        x.join(0, 1, LAST);
        x.undo();
        c.due("in the town it is in", Checks.street(x, "oak", 1, 0, 5), -5);
    }

    private static void streetRoom() {
        c.sentence("9: -6 there is no room for a street or a PAPER");
        DoorOffice x = Checks.withStreet(0);
        Checks.fillPapers(x, 0, 0, 0, 199);
        c.due("the 200th paper", Checks.street(x, "oak", 0, 0, 0), 1);
        c.due("a 201st", Checks.street(x, "ash", 0, 0, 0), -6);
        c.due("streets", x.count(1), 2);
        c.due("papers", x.count(3), 200);
    }

    private static void doorNumbers() {
        c.sentence("10: a new DOOR, with a NUMBER told as a whole, or 0: the LEAST: its number as a door");
        DoorOffice x = Checks.withStreet(0);
        c.due("told", x.door(0, 0, 10, 89, 0), 0);
        c.due("5+", x.number(0, 0, 0, 0), 89);
        c.due("the least", x.door(0, 0, 20, 0, 0), 1);
        c.due("7", x.number(1, 0, 0, 0), 112);
        c.due("the least of the other side", x.door(0, 1, 20, 0, 0), 2);
        c.due("2", x.number(2, 0, 0, 0), 32);
    }

    private static void doorRefusals() {
        c.sentence("10: -1 no such street; -2 side, paces, whole, FROM; -3; -4 NONE LEFT, or the told one is no candidate");
        DoorOffice x = Checks.withStreet(0);
        Checks.town(x, "new");
        x.door(0, 0, 10, 0, 5);
        for (int street : new int[] {-1, 1, LEAST_INT, MOST_INT}) {
            c.due("street " + street, x.door(street, 0, 20, 0, 5), -1);
        }
        c.due("side", x.door(0, 2, 20, 0, 5), -2);
        c.due("paces", x.door(0, 0, 10000, 0, 5), -2);
        c.due("whole", x.door(0, 0, 20, 15, 5), -2);
        c.due("FROM", x.door(0, 0, 20, 0, LAST + 1), -2);
        c.due("too early", x.door(0, 0, 20, 0, 4), -3);
        c.due("none left", x.door(0, 0, 5, 0, 5), -4);
        c.due("no candidate by SIDES", x.door(0, 0, 20, 64, 5), -4);
        c.due("no candidate: not above", x.door(0, 0, 20, 16, 5), -4);
        c.due("(its letter aside): a candidate with any letter", x.door(0, 0, 20, 25, 5), 1);
        c.due("(its letter aside): not the least either", x.door(0, 0, 30, 1621, 5), 2);
        c.due("papers", x.count(3), 4);
        c.due("spans", x.count(4), 3);
    }

    private static void doorSecondPlaces() {
        c.sentence("10: -5 a DOOR or CORNER stands at that side and paces");
        DoorOffice x = Checks.withStreet(3);
        Checks.street(x, "oak", 0, 3, 0);
        x.door(0, 0, 10, 0, 0);
        x.door(1, 0, 50, 0, 0);
        x.corner(1, 0, 1, 70, 0, 0);
        c.due("a door", x.door(0, 0, 10, 0, 0), -5);
        c.due("a door, told a number", x.door(0, 0, 10, 800, 0), -5);
        c.due("a corner by its second place", x.door(0, 1, 70, 0, 0), -5);
        c.due("a corner by its first place", x.door(1, 0, 50, 0, 0), -5);
        c.due("one pace on", x.door(0, 0, 11, 0, 0), 2);
        c.due("the other side", x.door(0, 1, 10, 0, 0), 3);
        c.due("the place of another street", x.door(1, 1, 70, 0, 0), 4);
        x.gone(1, 5);
        c.due("it is gone", x.door(0, 1, 70, 0, 5), 5);
        c.due("it is gone", x.door(1, 0, 50, 0, 5), 6);
        c.due("a second one then", x.door(0, 1, 70, 0, 5), -5);
    }

    private static void doorRoom() {
        c.sentence("10: -6 200 PAPERS");
        DoorOffice x = Checks.withStreet(3);
        Checks.fillPapers(x, 0, 3, 0, 199);
        c.due("the 200th paper", x.door(0, 0, 10, 0, 0), 0);
        c.due("a 201st", x.door(0, 0, 20, 0, 0), -6);
        c.due("doors", x.count(2), 1);
        c.due("spans", x.count(4), 1);
    }

    private static void spansRoom() {
        c.sentence("10, 11: -6 3000 SPANS of numbers");
        DoorOffice x = Checks.withStreet(0);
        Checks.street(x, "oak", 0, 3, 0);
        for (int i = 0; i < 54; i++) {
            x.door(0, 1, i, 0, 0);
        }
        x.door(1, 0, 10, 0, 0);
        for (int i = 0; i < 54; i++) {
            x.renumber(0, i % 2 == 0 ? 3 : 0, 0);
        }
        while (x.count(4) < 2999) {
            x.renumber(1, x.count(101) == 3 ? 0 : 3, 0);
        }
        c.due("papers", x.count(3) < 200, true);
        c.due("2999 spans", x.count(4), 2999);
        c.due("a corner is the 3000th", x.corner(54, 0, 1, 100, 0, 0) > 0, true);
        c.due("a corner more", x.corner(0, 1, 0, 100, 0, 0), -6);
        c.due("a door more", x.door(1, 0, 100, 0, 0), -6);
        c.due("3000 spans", x.count(4), 3000);
        x.undo();
        c.due("a door is the 3000th", x.door(1, 0, 100, 0, 0), 55);
        c.due("a door more", x.door(1, 0, 200, 0, 0), -6);
        c.due("a corner more", x.corner(0, 1, 0, 200, 0, 0), -6);
        c.due("a floor has no number", x.under(4, 0, 1, 0), 56);
        c.due("3000 spans", x.count(4), 3000);
    }

    private static DoorOffice twoStreets() {
        DoorOffice x = Checks.withStreet(3);
        Checks.street(x, "oak", 0, 3, 0);
        x.door(0, 0, 10, 0, 0);
        x.door(1, 0, 10, 0, 0);
        x.under(2, 0, 0, 0);
        x.under(3, 2, 1, 0);
        x.under(4, 0, 1, 0);
        return x;
    }

    private static void cornerRefusals() {
        c.sentence("11: -1 no such street or DOOR (that stands, and is of SORT 0), -2 the same street, too");
        DoorOffice x = twoStreets();
        for (int none : new int[] {-1, LEAST_INT, MOST_INT}) {
            c.due("door " + none, x.corner(none, 1, 0, 20, 0, 0), -1);
            c.due("street " + none, x.corner(0, none, 0, 20, 0, 0), -1);
        }
        c.due("door 5", x.corner(5, 1, 0, 20, 0, 0), -1);
        c.due("street 2", x.corner(0, 2, 0, 20, 0, 0), -1);
        c.due("a back", x.corner(2, 1, 0, 20, 0, 0), -1);
        c.due("a court", x.corner(3, 1, 0, 20, 0, 0), -1);
        c.due("a floor", x.corner(4, 1, 0, 20, 0, 0), -1);
        c.due("the same street", x.corner(0, 0, 0, 20, 0, 0), -2);
        c.due("likewise: -2 side", x.corner(0, 1, -1, 20, 0, 0), -2);
        c.due("likewise: -2 paces", x.corner(0, 1, 0, -1, 0, 0), -2);
        c.due("likewise: -2 whole", x.corner(0, 1, 0, 20, 10, 0), -2);
        c.due("likewise: -2 FROM", x.corner(0, 1, 0, 20, 0, -1), -2);
        c.due("likewise: -4 none left", x.corner(0, 1, 0, 5, 0, 0), -4);
        c.due("likewise: -4 no candidate", x.corner(0, 1, 0, 20, 16, 0), -4);
        c.due("likewise: -5", x.corner(0, 1, 0, 10, 0, 0), -5);
        c.due("told", x.corner(0, 1, 0, 20, 41, 0), 41);
        c.due("a corner already", x.corner(0, 1, 1, 20, 0, 0), -1);
        x.gone(1, 0);
        c.due("one that is gone", x.corner(1, 0, 1, 20, 0, 0), -1);
        Checks.street(x, "ash", 0, 3, 0);
        c.due("a corner already, a third street", x.corner(0, 2, 1, 20, 0, 0), -1);
    }

    private static void cornerFromItsDayOn() {
        c.sentence("11: a DOOR is a CORNER from FROM on, with a place in another street: its NUMBER there as a whole");
        DoorOffice x = twoStreets();
        c.due("the least", x.corner(0, 1, 0, 20, 0, 9), 32);
        c.due("the day ahead", x.number(0, 1, 8, 0), NONE);
        c.due("the day", x.number(0, 1, 9, 0), 32);
        c.due("its first number stays", x.number(0, 0, 9, 0), 16);
        c.due("not near on the day ahead", x.near(1, 0, 20, 8), 1);
        c.due("near on the day", x.near(1, 0, 20, 9), 0);
        c.due("no door more", x.count(2), 5);
        c.due("a span more", x.count(4), 3);
    }

    private static void cornerRoom() {
        c.sentence("11: -6 200 PAPERS");
        DoorOffice x = twoStreets();
        Checks.fillPapers(x, 0, 0, 0, 199);
        c.due("the 200th paper", x.corner(0, 1, 0, 20, 0, 0), 32);
        c.due("a 201st", x.corner(1, 0, 1, 20, 0, 0), -6);
        c.due("it is no corner", x.about(1, 0), 0);
        c.due("it has no second place", x.about(1, 5), NONE);
    }

    private static void underRefusals() {
        c.sentence("12: -1 no such one, or it is not of a SORT for that; -2 sort, k, FROM");
        // For each sort over it (DOOR, BACK, COURT, FLOOR, CORNER) which sorts may be under it.
        boolean[][] may = {{true, false, true}, {false, true, false}, {false, false, false}, {false, false, false}, {true, false, true}};
        int[] overs = {0, 2, 3, 4, 1};
        for (int i = 0; i < overs.length; i++) {
            for (int sort = 2; sort <= 4; sort++) {
                DoorOffice x = twoStreets();
                x.corner(1, 0, 1, 20, 0, 0);
                int k = sort == 2 ? 0 : 9;
                int due = !may[i][sort - 2] ? -1 : overs[i] == 0 && sort == 2 ? -5 : 5;
                c.due("sort " + sort + " under door " + overs[i], x.under(sort, overs[i], k, 0), due);
            }
        }
        DoorOffice x = twoStreets();
        for (int door : new int[] {-1, 5, LEAST_INT, MOST_INT}) {
            c.due("under door " + door, x.under(4, door, 2, 0), -1);
        }
        for (int sort : new int[] {1, 0, -1, 5, LEAST_INT, MOST_INT}) {
            c.due("sort " + sort, x.under(sort, 0, 2, 0), -2);
        }
        c.due("back, k 1", x.under(2, 1, 1, 0), -2);
        c.due("back, k -1", x.under(2, 1, -1, 0), -2);
        c.due("FROM", x.under(4, 0, 2, -1), -2);
        x.gone(0, 7);
        c.due("under one that is gone", x.under(4, 0, 2, 7), -1);
        c.due("under what is gone with it", x.under(3, 2, 2, 7), -1);
    }

    private static void underSecondOnes() {
        c.sentence("12: -5 there is such a one that stands");
        DoorOffice x = twoStreets();
        c.due("a back", x.under(2, 0, 0, 0), -5);
        c.due("a court", x.under(3, 2, 1, 0), -5);
        c.due("a floor", x.under(4, 0, 1, 0), -5);
        c.due("another court", x.under(3, 2, 2, 0), 5);
        c.due("another floor", x.under(4, 0, 2, 0), 6);
        c.due("a floor of that number elsewhere", x.under(4, 1, 1, 0), 7);
        c.due("a back elsewhere", x.under(2, 1, 0, 0), 8);
        c.due("a court of that number elsewhere", x.under(3, 8, 1, 0), 9);
        x.gone(3, 5);
        c.due("a court that is gone", x.under(3, 2, 1, 5), 10);
        x.gone(4, 5);
        c.due("a floor that is gone", x.under(4, 0, 1, 5), 11);
        c.due("the new one stands", x.under(4, 0, 1, 5), -5);
    }

    private static void underRoom() {
        c.sentence("12: -6 200 PAPERS");
        DoorOffice x = twoStreets();
        Checks.fillPapers(x, 0, 0, 0, 199);
        c.due("the 200th paper", x.under(4, 0, 9, 0), 5);
        c.due("a 201st", x.under(4, 0, 10, 0), -6);
        c.due("doors", x.count(2), 6);
    }

    private static void goneWithAllUnder() {
        c.sentence("13: a door is GONE from FROM on, with all that stand under it: how many");
        DoorOffice x = twoStreets();
        x.under(3, 2, 2, 0);
        x.gone(3, 2);
        c.due("a court alone", x.gone(5, 3), 1);
        c.due("a back without courts", x.gone(2, 4), 1);
        c.due("a floor and its door: what is gone is not counted again", x.gone(0, 5), 2);
        int[] days = {5, LAST + 1, 4, 2, 5, 3};
        for (int door = 0; door < days.length; door++) {
            c.due("door " + door + " on the day ahead", x.stands(door, days[door] - 1), true);
            c.due("door " + door + " on the day", x.stands(door, days[door]), false);
        }
        c.due("a door without unders", x.gone(1, 5), 1);
        DoorOffice y = twoStreets();
        c.due("all at once", y.gone(0, 5), 4);
        for (int door : new int[] {0, 2, 3, 4}) {
            c.due("door " + door + " stood", y.stands(door, 4), true);
            c.due("door " + door + " is gone", y.stands(door, 5), false);
        }
        c.due("the other one stands", y.stands(1, LAST), true);
    }

    private static void goneRefusals() {
        c.sentence("13: -1 no such one that stands; -2; -3; -6");
        DoorOffice x = twoStreets();
        for (int door : new int[] {-1, 5, LEAST_INT, MOST_INT}) {
            c.due("door " + door, x.gone(door, 0), -1);
        }
        c.due("FROM", x.gone(0, LAST + 1), -2);
        c.due("gone in times to come", x.gone(0, LAST), 4);
        c.due("it does not stand for papers", x.gone(0, LAST), -1);
        c.due("nor what was under it", x.gone(4, LAST), -1);
        c.due("a door of another street, earlier", x.gone(1, 0), 1);
        DoorOffice y = twoStreets();
        y.renumber(0, 3, 5);
        c.due("too early", y.gone(0, 4), -3);
        c.due("a court, too early", y.gone(3, 4), -3);
        Checks.fillPapers(y, 1, 3, 0, 199);
        c.due("the 200th paper", y.gone(3, 5), 1);
        c.due("a 201st", y.gone(0, 5), -6);
        c.due("it stands", y.stands(0, LAST), true);
    }

    private static void renumberRefusals() {
        c.sentence("14: how many doors have another NUMBER (UNKNOWN too) than before. -1; -2 RULE, FROM; -3; -4");
        DoorOffice x = twoStreets();
        for (int street : new int[] {-1, 2, LEAST_INT, MOST_INT}) {
            c.due("street " + street, x.renumber(street, 0, 0), -1);
        }
        c.due("RULE", x.renumber(0, 4, 0), -2);
        c.due("FROM", x.renumber(0, 0, -1), -2);
        c.due("from known to UNKNOWN", x.renumber(0, 3, 4), 1);
        c.due("from UNKNOWN to UNKNOWN", x.renumber(0, 3, 4), 0);
        c.due("from UNKNOWN to known", x.renumber(0, 0, 4), 1);
        c.due("the same", x.renumber(0, 1, 4), 0);
        c.due("but by another rule", x.count(100), 1);
        c.due("too early", x.renumber(0, 0, 3), -3);
        Checks.tell(x, Checks.wholes(15)).row(0, 0);
        c.due("none left", x.renumber(0, 3, 4), -4);
        c.due("the rule stays", x.count(100), 1);
        c.due("a street without doors", Checks.withStreet(0).renumber(0, 3, 0), 0);
    }

    private static void renumberRoom() {
        c.sentence("14: -6 200 PAPERS, 3000 SPANS of numbers");
        DoorOffice x = Checks.withStreet(0);
        for (int i = 0; i < 60; i++) {
            x.door(0, 1, i, 0, 0);
        }
        for (int i = 0; i < 49; i++) {
            c.due("renumber " + i, x.renumber(0, i % 2 == 0 ? 3 : 0, 0), 60);
        }
        c.due("3000 spans", x.count(4), 3000);
        c.due("no room", x.renumber(0, 0, 0), -6);
        c.due("the rule stays", x.count(100), 3);
        c.due("3000 spans", x.count(4), 3000);
        c.due("one that needs no span", x.renumber(0, 3, 0), 0);
        c.due("a door", x.door(0, 0, 10, 0, 0), -6);
        x.undo();
        x.undo();
        c.due("2940 spans", x.count(4), 2940);
        c.due("60 more fit", x.renumber(0, 3, 0), 60);
        x.undo();
        c.due("a door more", x.door(0, 1, 100, 0, 0), 60);
        c.due("2941 and 61 do not", x.renumber(0, 3, 0), -6);
        c.due("2941 spans", x.count(4), 2941);
    }

    private static void renameRefusals() {
        c.sentence("15: a street's new NAME: 1. -1; -2; -3; -5 as for street(); -6");
        DoorOffice x = twoStreets();
        for (int street : new int[] {-1, 2, LEAST_INT, MOST_INT}) {
            c.due("street " + street, Checks.rename(x, "ash", street, 0), -1);
        }
        c.due("a text that can't be", Checks.rename(x, "ash 1", 0, 0), -2);
        c.due("FROM", Checks.rename(x, "ash", 0, LAST + 1), -2);
        c.due("that of another street", Checks.rename(x, "oak", 0, 0), -5);
        c.due("its own", Checks.rename(x, "elm", 0, 0), -5);
        c.due("renamed", Checks.rename(x, "ash", 0, 10), 1);
        c.due("too early", Checks.rename(x, "fir", 0, 9), -3);
        c.due("its own", Checks.rename(x, "ash", 0, 10), -5);
        c.due("the other one, up to the day ahead", Checks.rename(x, "elm", 1, 9), -5);
        c.due("the one that it had before, on the day", Checks.rename(x, "elm", 1, 10), 1);
        c.due("not both", Checks.rename(x, "elm", 0, 10), -5);
        Checks.town(x, "new");
        Checks.street(x, "yew", 1, 0, 0);
        c.due("that of a street of another town", Checks.rename(x, "yew", 0, 10), 1);
    }

    private static void joinRefusals() {
        c.sentence("16: how many. -1 no such towns, or one was joined to another one; -2 the same, FROM; -3; -6");
        DoorOffice x = twoStreets();
        Checks.town(x, "new");
        Checks.town(x, "far");
        for (int town : new int[] {-1, 3, LEAST_INT, MOST_INT}) {
            c.due("a is " + town, x.join(town, 0, 0), -1);
            c.due("b is " + town, x.join(0, town, 0), -1);
        }
        c.due("the same", x.join(1, 1, 0), -2);
        c.due("FROM", x.join(0, 1, -1), -2);
        c.due("no streets", x.join(0, 1, 0), 0);
        c.due("b was joined", x.join(2, 1, 0), -1);
        c.due("a was joined", x.join(1, 2, 0), -1);
        c.due("the same that was joined", x.join(1, 1, 0), -1);
        c.due("the one it was joined to goes on", x.join(2, 0, 0), 2);
        c.due("the name of its first town", Checks.means(x, "elm 1, old", 0), 0);
        c.due("the name of its town", Checks.means(x, "elm 1, far", 0), 1);
        Checks.fillPapers(x, 0, 3, 0, 199);
        Checks.town(x, "gap");
        Checks.town(x, "pit");
        c.due("the 200th paper", x.join(2, 3, 0), 0);
        c.due("a 201st", x.join(2, 4, 0), -6);
        c.due("it was not joined", Checks.street(x, "box", 4, 0, 0), -6);
    }

    private static void joinSecondNames() {
        c.sentence("16: -5 if two streets would have one NAME on some day from FROM on");
        DoorOffice x = new DoorOffice();
        Checks.town(x, "old");
        Checks.town(x, "new");
        Checks.street(x, "elm", 0, 0, 0);
        Checks.street(x, "oak", 1, 0, 0);
        Checks.street(x, "elm", 1, 0, 0);
        c.due("one name", x.join(0, 1, 0), -5);
        c.due("one name, the other way", x.join(1, 0, 0), -5);
        c.due("one name, on the last day", x.join(0, 1, LAST), -5);
        Checks.rename(x, "ash", 2, 30);
        c.due("up to the day ahead", x.join(0, 1, 29), -3);
        c.due("not from that day on", x.join(0, 1, 30), 2);
        x.undo();
        Checks.rename(x, "oak", 0, 30);
        c.due("another one name", x.join(0, 1, 30), -5);
        c.due("nothing was joined", Checks.street(x, "fir", 1, 0, 0), 3);
    }

    private static void rowsOfPairs() {
        c.sentence("17: pairs of bytes, each a whole (the higher byte first, without sign): how many");
        DoorOffice x = twoStreets();
        c.due("empty", Checks.tell(x, "").row(0, 0), 0);
        c.due("it is a row of none", x.tear(0, 0, 5), 0);
        c.due("the door is UNKNOWN", x.renumber(0, 3, 0), 1);
        c.due("one pair", Checks.tell(x, Checks.bytes(0x80, 0x01)).row(0, 0), 1);
        x.renumber(0, 3, 0);
        c.due("without sign", x.number(0, 0, 0, 0), 0x8001);
        c.due("one pair", Checks.tell(x, Checks.bytes(0x01, 0x80)).row(0, 0), 1);
        x.renumber(0, 3, 0);
        c.due("the higher byte first, the lower one without sign", x.number(0, 0, 0, 0), 0x0180);
        c.due("600 pairs", Checks.tell(x, new byte[1200]).row(1, 1), 600);
        c.due("it had 600", x.tear(1, 1, MOST_INT), 600);
        c.due("a row in place of another one", Checks.tell(x, Checks.wholes(16, 32)).row(1, 1), 2);
        c.due("it has two", x.tear(1, 1, MOST_INT), 2);
    }

    private static void rowRefusals() {
        c.sentence("17: -1; -2 side, an odd number of bytes");
        DoorOffice x = twoStreets();
        Checks.tell(x, Checks.wholes(16, 32, 48)).row(0, 0);
        for (int street : new int[] {-1, 2, LEAST_INT, MOST_INT}) {
            c.due("street " + street, Checks.tell(x, "ab").row(street, 0), -1);
        }
        for (int side : new int[] {-1, 2, LEAST_INT, MOST_INT}) {
            c.due("side " + side, Checks.tell(x, "ab").row(0, side), -2);
        }
        c.due("one byte", Checks.tell(x, "a").row(0, 0), -2);
        c.due("three bytes", Checks.tell(x, "abc").row(0, 0), -2);
        c.due("1199 bytes", Checks.tell(x, new byte[1199]).row(0, 0), -2);
        c.due("the row stays", x.tear(0, 0, MOST_INT), 3);
        c.due("the other side has none", x.tear(0, 1, MOST_INT), NONE);
    }

    private static void rowIsNoPaper() {
        c.sentence("17: gives the ROW of a side of a street (no PAPER)");
        DoorOffice x = twoStreets();
        Checks.tell(x, Checks.wholes(160)).row(0, 0);
        c.due("papers", x.count(3), 7);
        c.due("undo takes the latest paper", x.undo(), 6);
        c.due("the row stays", x.tear(0, 0, MOST_INT), 1);
        c.due("renumbered by it", x.renumber(0, 3, 0), 1);
        c.due("taken back", x.undo(), 6);
        c.due("the row stays", x.tear(0, 0, MOST_INT), 1);
    }

    private static void rowOfEachSide() {
        c.sentence("17: the ROW of a side of a street: each has its own");
        DoorOffice x = new DoorOffice();
        Checks.town(x, "old");
        for (int street = 0; street < 24; street++) {
            Checks.street(x, "" + (char) ('a' + street), 0, 3, 0);
            c.due("never there, left", x.tear(street, 0, 9), NONE);
            c.due("never there, right", x.tear(street, 1, 9), NONE);
        }
        for (int street = 0; street < 24; street++) {
            for (int side = 0; side < 2; side++) {
                x.door(street, side, 10, 0, 0);
                Checks.tell(x, Checks.wholes(1600 + 32 * street + 16 * side)).row(street, side);
            }
        }
        for (int street = 0; street < 24; street++) {
            x.renumber(street, 3, 0);
            c.due("left of " + street, x.number(2 * street, 0, 0, 0), 1600 + 32 * street);
            c.due("right of " + street, x.number(2 * street + 1, 0, 0, 0), 1616 + 32 * street);
        }
    }

    private static void rowLongerThanDoors() {
        c.sentence("17: how many: a ROW may be longer than there can be doors");
        DoorOffice x = new DoorOffice();
        Checks.town(x, "old");
        for (int street = 0; street < 24; street++) {
            Checks.street(x, "" + (char) ('a' + street), 0, 3, 0);
        }
        x.door(0, 0, 10, 0, 0);
        x.door(0, 1, 10, 0, 0);
        x.door(23, 0, 10, 0, 0);
        x.door(23, 1, 10, 0, 0);
        Checks.tell(x, Checks.wholes(160)).row(0, 1);
        Checks.tell(x, Checks.wholes(176)).row(23, 0);
        int[] wholes = new int[600];
        for (int i = 0; i < wholes.length; i++) {
            wholes[i] = 320 + 16 * i;
        }
        c.due("left of the first", Checks.tell(x, Checks.wholes(wholes)).row(0, 0), 600);
        c.due("right of the last", Checks.tell(x, Checks.wholes(wholes)).row(23, 1), 600);
        x.renumber(0, 3, 0);
        x.renumber(23, 3, 0);
        int[] due = {320, 160, 176, 320};
        for (int door = 0; door < 4; door++) {
            c.due("door " + door, x.number(door, 0, 0, 0), due[door]);
        }
        c.due("it had 600", x.tear(0, 0, 100), 600);
        c.due("it had 100", x.tear(0, 0, 1), 100);
    }

    /** Names of twenty bytes need no end(): so as many as can be fit into 512 calls. */
    private static String longName(int i) {
        return "abcdefghijkl mnopq" + (char) ('a' + i / 26) + (char) ('a' + i % 26);
    }

    private static DoorOffice feedName(DoorOffice x, int i) {
        byte[] b = longName(i).getBytes(java.nio.charset.StandardCharsets.ISO_8859_1);
        int[] n = new int[5];
        for (int j = 0; j < 20; j++) {
            n[j / 4] = n[j / 4] << 8 | b[j];
        }
        x.feed(n[0], n[1], n[2], n[3], n[4]);
        return x;
    }

    private static void namesWithoutEnd() {
        c.sentence("15, 16: there is room for as many NAMES and towns of streets as 200 PAPERS can give");
        DoorOffice x = new DoorOffice();
        for (int town = 0; town < 8; town++) {
            feedName(x, town).town();
        }
        for (int street = 0; street < 24; street++) {
            c.due("street", feedName(x, 10 + street).street(0, 3, 0), street);
        }
        x.door(23, 0, 10, 0, 0);
        for (int town = 1; town < 8; town++) {
            c.due("all streets are joined to town " + town, x.join(town, town - 1, 10 * town), 24);
        }
        for (int i = x.count(3); i < 200; i++) {
            c.due("renamed", feedName(x, 200 + i).rename(23, 100 + i), 1);
        }
        c.due("no paper more", feedName(x, 400).rename(23, 400), -6);
        c.due("its last name, and the last town", Checks.means(x, longName(399) + " 1, " + longName(7), LAST), 1);
        c.due("the name ahead of it", Checks.means(x, longName(398) + " 1, " + longName(7), 298), 1);
        c.due("not any more", Checks.means(x, longName(398) + " 1, " + longName(7), 299), 0);
        c.due("its first name, in the third town", Checks.means(x, longName(33) + " 1, " + longName(2), 20), 1);
        c.due("not any more", Checks.means(x, longName(33) + " 1, " + longName(2), 30), 0);
    }

    private static void tearBehindN() {
        c.sentence("18: A ROW ends behind n wholes: how many it had");
        DoorOffice x = twoStreets();
        x.door(0, 0, 20, 0, 0);
        x.door(0, 0, 30, 0, 0);
        Checks.tell(x, Checks.wholes(160, 176, 192)).row(0, 0);
        c.due("behind more than it has", x.tear(0, 0, 4), 3);
        c.due("behind all", x.tear(0, 0, 3), 3);
        c.due("behind two", x.tear(0, 0, 2), 3);
        x.renumber(0, 3, 0);
        c.due("the first", x.number(0, 0, 0, 0), 160);
        c.due("the second", x.number(5, 0, 0, 0), 176);
        c.due("the third is UNKNOWN", x.number(6, 0, 0, 0), 0);
        c.due("what is torn off does not come back", x.tear(0, 0, 3), 2);
        c.due("behind none", x.tear(0, 0, 0), 2);
        c.due("it has none", x.tear(0, 0, 1), 0);
        c.due("it has none, and is not burnt", x.tear(0, 0, NONE), 0);
        c.due("numbers stay until renumbered", x.number(0, 0, 0, 0), 160);
    }

    private static void tearBurnt() {
        c.sentence("18: or is burnt (NONE): how many it had (NONE: it was burnt, or never there)");
        DoorOffice x = twoStreets();
        c.due("never there", x.tear(0, 0, 0), NONE);
        c.due("never there, still", x.tear(0, 0, NONE), NONE);
        Checks.tell(x, Checks.wholes(16, 32)).row(0, 0);
        c.due("burnt", x.tear(0, 0, NONE), 2);
        c.due("it was burnt", x.tear(0, 0, NONE), NONE);
        c.due("it was burnt", x.tear(0, 0, 2), NONE);
        c.due("and stays burnt", x.tear(0, 0, 2), NONE);
        Checks.tell(x, Checks.wholes(16)).row(0, 0);
        c.due("a new one", x.tear(0, 0, 1), 1);
        c.due("the other side was never there", x.tear(0, 1, 1), NONE);
        c.due("the other street was never there", x.tear(1, 0, 1), NONE);
    }

    private static void tearRefusals() {
        c.sentence("18: -1 no such street or side (then too: NONE); -2 n is below NONE");
        DoorOffice x = twoStreets();
        Checks.tell(x, Checks.wholes(16, 32)).row(0, 0);
        for (int none : new int[] {-1, 2, LEAST_INT, MOST_INT}) {
            c.due("street " + none, x.tear(none, 0, 0), -1);
            c.due("side " + none, x.tear(0, none, 0), -1);
            c.due("street " + none + " with NONE", x.tear(none, 0, NONE), -1);
            c.due("side " + none + " with NONE", x.tear(0, none, NONE), -1);
        }
        c.due("n -2", x.tear(0, 0, -2), -2);
        c.due("n least", x.tear(0, 0, LEAST_INT), -2);
        c.due("n -2, never there", x.tear(0, 1, -2), -2);
        c.due("the row stays", x.tear(0, 0, MOST_INT), 2);
    }

    private static void undoLatest() {
        c.sentence("19: The latest PAPER is taken back: how many are left");
        DoorOffice x = twoStreets();
        x.day(7);
        Checks.rename(x, "ash", 0, 5);
        x.renumber(1, 1, 3);
        c.due("the latest laid, not the latest day", x.undo(), 8);
        c.due("the rule before", x.count(101), 3);
        c.due("ash is there", Checks.means(x, "ash 1, old", 5), 1);
        c.due("the renaming", x.undo(), 7);
        c.due("elm is there", Checks.means(x, "elm 1, old", 5), 1);
        c.due("TODAY stays", x.count(5), 7);
        c.due("the floor", x.undo(), 6);
        c.due("the court", x.undo(), 5);
        c.due("the back", x.undo(), 4);
        c.due("doors", x.count(2), 2);
        c.due("a number is had again", x.under(4, 0, 7, 0), 2);
        c.due("with its own k", x.about(2, 8), 7);
        c.due("and its own sort", x.about(2, 0), 4);
        x.as(6);
        c.due("it is KNOWN from the TODAY on at which it was laid", x.stands(2, 0), false);
    }

    private static void undoNone() {
        c.sentence("19: NONE if there is none");
        DoorOffice x = new DoorOffice();
        c.due("none", x.undo(), NONE);
        Checks.town(x, "old");
        Checks.tell(x, "st street").shorten();
        c.due("towns and short forms are none", x.undo(), NONE);
        Checks.street(x, "elm", 0, 0, 0);
        c.due("the one", x.undo(), 0);
        c.due("none any more", x.undo(), NONE);
        c.due("none any more", x.undo(), NONE);
        c.due("a street anew", Checks.street(x, "elm", 0, 2, 0), 0);
    }

    private static void imagePlaces() {
        c.sentence("20: Place 0 .. 2 keeps an image: true; false if there is no such place");
        DoorOffice x = Checks.withStreet(0);
        for (int place : new int[] {-1, 3, LEAST_INT, MOST_INT}) {
            c.due("image(" + place + ")", x.image(place), false);
        }
        for (int place = 0; place < 3; place++) {
            c.due("image(" + place + ")", x.image(place), true);
            x.door(0, 0, 10 * place, 0, 0);
        }
        for (int place = 2; place >= 0; place--) {
            c.due("back(" + place + ")", x.back(place), true);
            c.due("doors", x.count(2), place);
        }
        c.due("images are not in an image", x.back(2), true);
        c.due("doors", x.count(2), 2);
        c.due("an image in place of another one", x.image(0), true);
        x.undo();
        x.back(0);
        c.due("doors", x.count(2), 2);
    }

    private static void backToNone() {
        c.sentence("21: false if there is none");
        DoorOffice x = Checks.withStreet(0);
        x.image(1);
        x.door(0, 0, 10, 0, 0);
        for (int place : new int[] {0, 2, -1, 3, LEAST_INT, MOST_INT}) {
            c.due("back(" + place + ")", x.back(place), false);
            c.due("doors", x.count(2), 1);
        }
        c.due("back(1)", x.back(1), true);
        c.due("doors", x.count(2), 0);
        c.due("back(1) again", x.back(1), true);
        c.due("back(0)", x.back(0), false);
    }

    private static void backAsItWas() {
        c.sentence("21: All is as it was when an image was made (all but the tape, OUT, and images)");
        DoorOffice x = twoStreets();
        x.image(0);
        x.day(50);
        x.write(0, 0, 0);
        x.gone(0, 9);
        Checks.town(x, "new");
        Checks.tell(x, "elm 1, old");
        x.as(3);
        c.due("back", x.back(0), true);
        c.due("TODAY goes back", x.count(5), 0);
        c.due("a day before the one that TODAY was", x.day(10), true);
        c.due("towns", x.count(0), 1);
        c.due("as() goes back: all papers", x.stands(0, 9), true);
        c.due("the tape stays", x.count(10), 10);
        c.due("the tape stays", x.means(9), 1);
        c.due("OUT stays", Checks.out(x), "elm 1, old");
        x.gone(0, 5);
        c.due("an image does not change with what is laid behind it", x.back(0), true);
        c.due("it stands", x.stands(0, 9), true);
        c.due("its number is open", x.number(0, 0, 9, 2), NONE);
    }
}

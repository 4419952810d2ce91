/** Terms V and promises 35 to 44: each sentence that names a boundary case has a test of its own. */
public final class BoundsWalksTest {
    private static final int NONE = DoorOffice.NONE;
    private static final int LAST = 109574;
    private static final int LEAST_INT = Integer.MIN_VALUE;
    private static final int MOST_INT = Integer.MAX_VALUE;
    private static final Checks c = new Checks();

    public static void main(String[] args) {
        upTo24Stops();
        noStopsAnyMore();
        stopRefused();
        ways();
        likePaces();
        eachDoorOnce();
        undersBehindTheirDoor();
        walkOnDays();
        walkRefused();
        walkedNone();
        walkOf100Doors();
        besideAFullDesk();
        upTo60Letters();
        letterRefused();
        lettersThatMeanSure();
        sortedByTheWalk();
        sortedByTheLatestWalk();
        sortOfNone();
        sortedNone();
        listRecords();
        listOnDays();
        listRefused();
        checkAllRight();
        checkWrongRecords();
        checkSecondTime();
        checkPieces();
        checkLacks();
        checkOnDays();
        outNone();
        countOfEach();
        countRules();
        countForOthers();
        c.finish();
    }

    /** Left 10, 20, 30 (0, 1, 2), right 10, 20 (3, 4) of elm; oak without doors. */
    private static DoorOffice office() {
        DoorOffice x = Checks.withStreet(3);
        Checks.street(x, "oak", 0, 3, 0);
        int[][] doors = {{0, 10}, {0, 20}, {0, 30}, {1, 10}, {1, 20}};
        for (int[] d : doors) {
            x.door(0, d[0], d[1], 0, 0);
        }
        return x;
    }

    private static String walk(DoorOffice x, int way, int day) {
        x.stop(0, NONE);
        x.stop(0, way);
        x.walk(day);
        return Checks.walked(x);
    }

    private static void upTo24Stops() {
        c.sentence("V, 35: A WALK has up to 24 STOPS: how many there are; -6");
        DoorOffice x = office();
        for (int i = 1; i <= 24; i++) {
            c.due("stop " + i, x.stop(i % 2, i % 3), i);
        }
        c.due("a 25th", x.stop(0, 0), -6);
        c.due("count", x.count(7), 24);
        c.due("the walk has all", x.walk(0), 5);
        DoorOffice y = office();
        for (int i = 1; i < 24; i++) {
            y.stop(1, 0);
        }
        y.stop(0, 0);
        c.due("the 24th counts", y.walk(0), 5);
    }

    private static void noStopsAnyMore() {
        c.sentence("35: with NONE as way there is none any more: 0");
        DoorOffice x = office();
        c.due("of none", x.stop(0, NONE), 0);
        x.stop(0, 0);
        x.stop(1, 0);
        c.due("told of a street that has no stop, too", x.stop(1, NONE), 0);
        c.due("count", x.count(7), 0);
        c.due("a walk without stops", x.walk(0), 0);
        for (int i = 1; i <= 24; i++) {
            x.stop(0, 0);
        }
        c.due("of 24", x.stop(0, NONE), 0);
        c.due("the first again", x.stop(0, 2), 1);
    }

    private static void stopRefused() {
        c.sentence("35: -1 no such street (then, too); -2 way");
        DoorOffice x = office();
        x.stop(0, 1);
        for (int street : new int[] {-1, 2, LEAST_INT, MOST_INT}) {
            c.due("street " + street, x.stop(street, 0), -1);
            c.due("street " + street + ", none any more", x.stop(street, NONE), -1);
            c.due("street " + street + ", way 3", x.stop(street, 3), -1);
        }
        for (int way : new int[] {-2, 3, LEAST_INT, MOST_INT}) {
            c.due("way " + way, x.stop(0, way), -2);
        }
        c.due("count", x.count(7), 1);
    }

    private static void ways() {
        c.sentence("V: WAY: 0 up side 0, then down side 1; 1 by paces, rising; 2 by paces, falling");
        DoorOffice x = office();
        c.due("way 0", walk(x, 0, 0), "0 1 2 4 3");
        c.due("way 1", walk(x, 1, 0), "0 3 1 4 2");
        c.due("way 2", walk(x, 2, 0), "2 4 1 3 0");
        DoorOffice y = Checks.withStreet(3);
        c.due("no doors", walk(y, 0, 0), "");
        y.door(0, 1, 9999, 0, 0);
        c.due("one door, way 0", walk(y, 0, 0), "0");
        c.due("one door, way 1", walk(y, 1, 0), "0");
        c.due("one door, way 2", walk(y, 2, 0), "0");
    }

    private static void likePaces() {
        c.sentence("V: 1 .. side 0 first at like paces; 2 .. side 1 first");
        DoorOffice x = Checks.withStreet(3);
        int[][] doors = {{1, 0}, {0, 0}, {0, 9999}, {1, 9999}};
        for (int[] d : doors) {
            x.door(0, d[0], d[1], 0, 0);
            x.renumber(0, 3, 0);
        }
        c.due("way 0", walk(x, 0, 0), "1 2 3 0");
        c.due("way 1", walk(x, 1, 0), "1 0 2 3");
        c.due("way 2", walk(x, 2, 0), "3 2 0 1");
        DoorOffice y = Checks.withStreet(3);
        int[][] places = {{0, 11}, {1, 10}, {1, 20}, {0, 21}};
        for (int[] d : places) {
            y.door(0, d[0], d[1], 0, 0);
            y.renumber(0, 3, 0);
        }
        c.due("a pace counts ahead of the side, rising", walk(y, 1, 0), "1 0 2 3");
        c.due("a pace counts ahead of the side, falling", walk(y, 2, 0), "3 2 0 1");
    }

    private static void eachDoorOnce() {
        c.sentence("V: It comes to each DOOR and CORNER that stands on the day once, in the first STOP that has it");
        DoorOffice x = office();
        x.door(1, 0, 50, 0, 0);
        x.corner(0, 1, 0, 90, 0, 5);
        x.stop(1, 0);
        x.stop(0, 0);
        x.stop(1, 2);
        x.stop(0, 2);
        c.due("the day ahead of the corner", x.walk(4), 6);
        c.due("the day ahead of the corner", Checks.walked(x), "5 0 1 2 4 3");
        x.under(2, 0, 0, 5);
        c.due("with the corner", x.walk(5), 7);
        c.due("with the corner", Checks.walked(x), "5 0 6 1 2 4 3");
    }

    private static void undersBehindTheirDoor() {
        c.sentence("V: behind each its BACK, COURTS, FLOORS that stand, by SORT, then by number");
        DoorOffice x = office();
        x.under(4, 0, 99, 0);
        x.under(4, 0, 1, 0);
        x.under(2, 0, 0, 0);
        x.under(3, 7, 99, 0);
        x.under(3, 7, 1, 0);
        x.under(2, 1, 0, 0);
        c.due("sorted", walk(x, 0, 0), "0 7 9 8 6 5 1 10 2 4 3");
        x.gone(9, 5);
        x.under(4, 0, 50, 5);
        c.due("one is gone, one is new", walk(x, 0, 5), "0 7 8 6 11 5 1 10 2 4 3");
        c.due("the day ahead", walk(x, 0, 4), "0 7 9 8 6 5 1 10 2 4 3");
        x.gone(7, 6);
        c.due("without back and courts", walk(x, 0, 6), "0 6 11 5 1 10 2 4 3");
    }

    private static void walkOnDays() {
        c.sentence("36: The walk on a day, as known: how many doors it comes to");
        DoorOffice x = office();
        x.day(10);
        x.gone(1, 5);
        x.door(0, 1, 30, 0, 7);
        x.stop(0, 0);
        int[][] due = {{0, 5}, {4, 5}, {5, 4}, {6, 4}, {7, 5}, {LAST, 5}};
        for (int[] d : due) {
            c.due("on day " + d[0], x.walk(d[0]), d[1]);
        }
        x.as(9);
        c.due("as known ahead", x.walk(6), 5);
        c.due("as known ahead", Checks.walked(x), "0 1 2 4 3");
        x.as(10);
        x.renumber(0, 3, 8);
        c.due("doors with UNKNOWN numbers, too", x.walk(8), 5);
    }

    private static void walkRefused() {
        c.sentence("36: -2 no such day");
        DoorOffice x = office();
        x.stop(0, 0);
        x.walk(0);
        for (int day : new int[] {-1, LAST + 1, LEAST_INT, MOST_INT}) {
            c.due("walk(" + day + ")", x.walk(day), -2);
        }
        c.due("the latest walk stays", Checks.walked(x), "0 1 2 4 3");
    }

    private static void walkedNone() {
        c.sentence("37: Door i that the latest walk() came to; NONE if there is none such");
        DoorOffice x = office();
        c.due("ahead of any", x.walked(0), NONE);
        x.stop(0, 0);
        c.due("a stop is no walk", x.walked(0), NONE);
        x.walk(0);
        c.due("the first", x.walked(0), 0);
        c.due("the last", x.walked(4), 3);
        for (int i : new int[] {-1, 5, 100, LEAST_INT, MOST_INT}) {
            c.due("walked(" + i + ")", x.walked(i), NONE);
        }
        x.stop(0, NONE);
        c.due("the latest walk stays without stops", x.walked(4), 3);
        x.walk(0);
        c.due("a walk of none", x.walked(0), NONE);
    }

    private static void walkOf100Doors() {
        c.sentence("36: how many doors it comes to: all 100");
        DoorOffice x = Checks.withStreet(3);
        for (int i = 0; i < 99; i++) {
            x.door(0, i % 2, i, 0, 0);
        }
        x.under(2, 97, 0, 0);
        x.stop(0, 0);
        c.due("100", x.walk(0), 100);
        c.due("the last one", x.walked(99), 1);
        c.due("there is no more", x.walked(100), NONE);
        c.due("the whole list", x.list(0), 594);
        c.due("taken", x.take(), 594);
        c.due("checked", x.check(0), NONE);
        c.due("none told", x.check(0), 1000);
        c.due("door 99 is a back", Checks.tell(x, Checks.bytes(99, 0, 0, 0, 0, 0)).check(0), 0);
        c.due("door 100 is none", Checks.tell(x, Checks.bytes(100, 0, 0, 0, 0, 0)).check(0), 0);
        c.due("door 100 is none, by its second place", Checks.tell(x, Checks.bytes(100, 0, 1, 255, 255, 255)).check(0), 0);
        c.due("the back behind its door", x.walked(51), 99);
    }

    private static void besideAFullDesk() {
        c.sentence("36 to 40: walks and LETTERS do not ask how many doors are FOUND or LETTERS were SORTED");
        DoorOffice x = Checks.withStreet(3);
        Checks.street(x, "oak", 0, 3, 0);
        x.door(0, 0, 10, 0, 0);
        x.under(4, 0, 2, 0);
        x.under(4, 0, 1, 0);
        for (int i = 0; i < 97; i++) {
            x.door(1, 0, i, 0, 0);
        }
        x.renumber(1, 3, 0);
        for (int i = 0; i < 20; i++) {
            Checks.letter(x, "elm 1, old", 0);
        }
        c.due("sorted", x.sort(), 20);
        c.due("found", Checks.means(x, "oak 7, old", 0), 97);
        c.due("a walk", walk(x, 0, 0), "0 2 1");
        c.due("a letter", Checks.letter(x, "elm 1 floor 1, old", 0), 1);
        c.due("it is sorted", x.sort(), 1);
        c.due("it is sorted", Checks.sorted(x), "0>2");
        Checks.means(x, "elm 1, old", 0);
        c.due("one found", walk(x, 1, 0), "0 2 1");
    }

    private static void upTo60Letters() {
        c.sentence("V, 38: LETTERS, up to 60: how many there are; -6");
        DoorOffice x = office();
        for (int i = 1; i <= 60; i++) {
            c.due("letter " + i, Checks.letter(x, "elm 1, old", 0), i);
        }
        c.due("a 61st", Checks.letter(x, "elm 1, old", 0), -6);
        c.due("count", x.count(8), 60);
        c.due("sorted", x.sort(), 60);
        c.due("the last", x.sorted(59, 0), 59);
        c.due("there is no more", x.sorted(60, 0), NONE);
        c.due("room again", Checks.letter(x, "elm 1, old", 0), 1);
    }

    private static void letterRefused() {
        c.sentence("38: -1 it means no door SURE; -2 as for means()");
        DoorOffice x = office();
        c.due("no such number", Checks.letter(x, "elm 9, old", 0), -1);
        c.due("no such street", Checks.letter(x, "ash 1, old", 0), -1);
        c.due("no such floor", Checks.letter(x, "elm 1 floor 1, old", 0), -1);
        c.due("a FAULT", Checks.letter(x, "elm 1, old ", 0), -2);
        for (int day : new int[] {-1, LAST + 1, LEAST_INT, MOST_INT}) {
            c.due("day " + day, Checks.letter(x, "elm 1, old", day), -2);
        }
        x.renumber(0, 3, 5);
        c.due("the day ahead", Checks.letter(x, "elm 1, old", 4), 1);
        c.due("LIKELY or OLD is not SURE", Checks.letter(x, "elm 1, old", 5), -1);
        c.due("count", x.count(8), 1);
    }

    private static void lettersThatMeanSure() {
        c.sentence("V: LETTERS are ADDRESSES for a day that mean a door SURE");
        DoorOffice x = office();
        x.day(9);
        x.gone(0, 5);
        x.door(0, 0, 15, 16, 5);
        Checks.letter(x, "elm 1, old", 4);
        Checks.letter(x, "elm 1, old", 5);
        x.as(8);
        Checks.letter(x, "elm 1, old", 5);
        x.sort();
        c.due("by the day, and as known", Checks.sorted(x), "0>0 1>5 2>0");
    }

    private static void sortedByTheWalk() {
        c.sentence("V: SORTED: by when the walk comes to their door, those of one door as they came, those .. not .. behind all");
        DoorOffice x = office();
        x.door(1, 0, 10, 0, 0);
        x.under(2, 1, 0, 0);
        x.stop(0, 2);
        x.walk(0);
        c.due("walked", Checks.walked(x), "2 4 1 6 3 0");
        // In elm 1, 2, 3 are on the left, 4 and 5 on the right.
        String[] letters = {"oak 1, old", "elm 1, old", "elm 2 back, old", "elm 3, old", "elm 1, old", "oak 1, old", "elm 2, old", "elm 3, old"};
        for (String letter : letters) {
            Checks.letter(x, letter, 0);
        }
        c.due("eight", x.sort(), 8);
        c.due("sorted", Checks.sorted(x), "3>2 7>2 6>1 2>6 1>0 4>0 0>5 5>5");
    }

    private static void sortedByTheLatestWalk() {
        c.sentence("39: LETTERS are SORTED by the latest walk(), and go: how many there were");
        DoorOffice x = office();
        Checks.letter(x, "elm 3, old", 0);
        Checks.letter(x, "elm 1, old", 0);
        c.due("without a walk", x.sort(), 2);
        c.due("as they came", Checks.sorted(x), "0>2 1>0");
        c.due("they went", x.count(8), 0);
        x.stop(0, 0);
        x.walk(0);
        x.stop(0, NONE);
        x.stop(0, 2);
        Checks.letter(x, "elm 3, old", 0);
        Checks.letter(x, "elm 1, old", 0);
        x.sort();
        c.due("the latest walk, not the stops", Checks.sorted(x), "1>0 0>2");
        x.walk(0);
        Checks.letter(x, "elm 1, old", 0);
        Checks.letter(x, "elm 3, old", 0);
        x.walk(-1);
        x.sort();
        c.due("a refused walk is none", Checks.sorted(x), "1>2 0>0");
    }

    private static void sortOfNone() {
        c.sentence("39: and go: how many there were: none");
        DoorOffice x = office();
        c.due("none", x.sort(), 0);
        Checks.letter(x, "elm 1, old", 0);
        c.due("one", x.sort(), 1);
        c.due("it went", x.sort(), 0);
        c.due("none as they were SORTED latest", x.sorted(0, 0), NONE);
    }

    private static void sortedNone() {
        c.sentence("40: which 0: the letter's number (from 0 on, as it came), 1: its door. NONE if there is none such");
        DoorOffice x = office();
        c.due("ahead of any", x.sorted(0, 0), NONE);
        Checks.letter(x, "elm 3, old", 0);
        Checks.letter(x, "elm 1, old", 0);
        c.due("not SORTED yet", x.sorted(0, 0), NONE);
        x.stop(0, 0);
        x.walk(0);
        x.sort();
        c.due("the first, its number", x.sorted(0, 0), 1);
        c.due("the first, its door", x.sorted(0, 1), 0);
        c.due("the last, its number", x.sorted(1, 0), 0);
        c.due("the last, its door", x.sorted(1, 1), 2);
        for (int i : new int[] {-1, 2, 60, LEAST_INT, MOST_INT}) {
            c.due("sorted(" + i + ", 0)", x.sorted(i, 0), NONE);
            c.due("sorted(" + i + ", 1)", x.sorted(i, 1), NONE);
        }
        for (int which : new int[] {-1, 2, LEAST_INT, MOST_INT}) {
            c.due("sorted(0, " + which + ")", x.sorted(0, which), NONE);
        }
        Checks.letter(x, "elm 3, old", 0);
        c.due("a letter more does not change it", Checks.sorted(x), "1>0 0>2");
        x.sort();
        c.due("from 0 on again", Checks.sorted(x), "0>2");
    }

    /** 0 in elm with 9999+, in oak with 16 from 5 on; 1 in oak with 17; a back under 0; oak UNKNOWN from 9 on. */
    private static DoorOffice listed() {
        DoorOffice x = Checks.withStreet(3);
        Checks.street(x, "oak", 0, 3, 0);
        x.door(0, 0, 10, 159993, 0);
        x.door(1, 0, 10, 17, 0);
        x.under(2, 0, 0, 0);
        x.corner(0, 1, 0, 5, 16, 5);
        x.renumber(1, 3, 9);
        return x;
    }

    private static String bytes(int... values) {
        StringBuilder text = new StringBuilder();
        for (int value : values) {
            text.append((char) value);
        }
        return text.toString();
    }

    private static final int[] DAY_5 = {0, 0, 0, 2, 0x70, 0xf9, 0, 1, 1, 0, 0, 16, 1, 1, 0, 0, 0, 17};

    private static void listRecords() {
        c.sentence("41: for each DOOR and CORNER, in order, for each of its places: six bytes: door, street, place, three of its whole");
        DoorOffice x = listed();
        c.due("day 5", x.list(5), 18);
        c.due("day 5", Checks.out(x), bytes(DAY_5));
        c.due("UNKNOWN", x.list(9), 18);
        c.due("UNKNOWN is 0", Checks.out(x), bytes(0, 0, 0, 2, 0x70, 0xf9, 0, 1, 1, 0, 0, 0, 1, 1, 0, 0, 0, 0));
        c.due("nothing there", new DoorOffice().list(0), 0);
    }

    private static void listOnDays() {
        c.sentence("41: OUT is the list of a day, as known: that stands then, .. has a NUMBER then");
        DoorOffice x = listed();
        c.due("the day ahead of the corner", x.list(4), 12);
        c.due("the day ahead of the corner", Checks.out(x), bytes(0, 0, 0, 2, 0x70, 0xf9, 1, 1, 0, 0, 0, 17));
        x.day(20);
        x.gone(0, 12);
        c.due("the day ahead of gone", x.list(11), 18);
        c.due("gone", x.list(12), 6);
        x.gone(1, 12);
        c.due("all gone", x.list(12), 0);
        c.due("OUT is empty", x.out(0), NONE);
        x.as(19);
        c.due("as known", x.list(12), 18);
        c.due("the first day", x.list(0), 12);
        c.due("the last day", x.list(LAST), 18);
    }

    private static void listRefused() {
        c.sentence("41: -2 no such day");
        DoorOffice x = listed();
        x.list(5);
        for (int day : new int[] {-1, LAST + 1, LEAST_INT, MOST_INT}) {
            c.due("list(" + day + ")", x.list(day), -2);
        }
        c.due("OUT stays", Checks.out(x), bytes(DAY_5));
    }

    private static int check(int day, int... values) {
        return Checks.tell(listed(), Checks.bytes(values)).check(day);
    }

    private static int[] records(int... which) {
        int[] values = new int[6 * which.length];
        for (int i = 0; i < values.length; i++) {
            values[i] = DAY_5[6 * which[i / 6] + i % 6];
        }
        return values;
    }

    private static void checkAllRight() {
        c.sentence("42: its records in any order: NONE if all are right, each once, and none lacks");
        int[][] orders = {{0, 1, 2}, {0, 2, 1}, {1, 0, 2}, {1, 2, 0}, {2, 0, 1}, {2, 1, 0}};
        for (int[] order : orders) {
            c.due("in an order", check(5, records(order)), NONE);
        }
        c.due("none of none", new DoorOffice().check(0), NONE);
    }

    private static void checkWrongRecords() {
        c.sentence("42: else the first record that is none of the list");
        for (int at = 0; at < 18; at++) {
            for (int change : new int[] {1, 255, 128}) {
                int[] values = records(0, 1, 2);
                values[at] = values[at] + change & 255;
                c.due("byte " + at + " and " + change, check(5, values), at / 6);
            }
        }
        int[] two = records(0, 1, 2);
        two[7] = 9;
        two[13] = 9;
        c.due("the first of two", check(5, two), 1);
        c.due("one more behind all", check(5, append(records(0, 1, 2), 1, 1, 1, 0, 0, 17)), 3);
        c.due("a back is none", check(5, 2, 0, 0, 0, 0, 0), 0);
        c.due("a door that is none", check(5, 3, 0, 0, 0, 0, 0), 0);
        c.due("door 255", check(5, 255, 255, 255, 255, 255, 255), 0);
        c.due("place 1 of a door that has none", check(5, 1, 1, 1, 0, 0, 17), 0);
        c.due("on a list of none", Checks.tell(new DoorOffice(), "abcdef").check(0), 0);
    }

    private static int[] append(int[] values, int... more) {
        int[] all = java.util.Arrays.copyOf(values, values.length + more.length);
        System.arraycopy(more, 0, all, values.length, more.length);
        return all;
    }

    private static void checkSecondTime() {
        c.sentence("42: or one for the second time");
        c.due("at once", check(5, records(0, 0, 1, 2)), 1);
        c.due("behind another", check(5, records(0, 1, 0, 2)), 2);
        c.due("behind all", check(5, records(0, 1, 2, 2)), 3);
        c.due("behind all, the first", check(5, records(0, 1, 2, 0)), 3);
        c.due("though one lacks", check(5, records(1, 1)), 1);
    }

    private static void checkPieces() {
        c.sentence("42: (a piece of less than six bytes is none)");
        for (int n = 1; n < 6; n++) {
            int[] piece = java.util.Arrays.copyOf(records(0), n);
            c.due("a piece of " + n, check(5, piece), 0);
            c.due("a piece of " + n + " behind one", check(5, append(records(1), piece)), 1);
            c.due("a piece of " + n + " behind all", check(5, append(records(0, 1, 2), piece)), 3);
            c.due("a piece of " + n + " on a list of none", Checks.tell(new DoorOffice(), Checks.bytes(piece)).check(0), 0);
            DoorOffice x = listed();
            x.list(5);
            x.take();
            x.end(12 + n);
            c.due("what was cut off is not there any more, " + n, x.check(5), 2);
        }
    }

    private static void checkLacks() {
        c.sentence("42: or, if all are right, 1000 and the first door of which one lacks");
        c.due("all lack", check(5), 1000);
        c.due("the first place of the first", check(5, records(1, 2)), 1000);
        c.due("the second place of the first", check(5, records(0, 2)), 1000);
        c.due("the last", check(5, records(0, 1)), 1001);
        c.due("both", check(5, records(2)), 1000);
    }

    private static void checkOnDays() {
        c.sentence("42: held against the list of a day, as known. -2 no such day");
        c.due("the day ahead of the corner", check(4, records(0, 2)), NONE);
        c.due("the day ahead of the corner", check(4, records(0, 1, 2)), 1);
        c.due("UNKNOWN", check(9, 0, 0, 0, 2, 0x70, 0xf9, 0, 1, 1, 0, 0, 0, 1, 1, 0, 0, 0, 0), NONE);
        c.due("UNKNOWN now", check(9, records(0, 1, 2)), 1);
        for (int day : new int[] {-1, LAST + 1, LEAST_INT, MOST_INT}) {
            c.due("check(" + day + ")", check(day, records(0, 1, 2)), -2);
        }
        DoorOffice x = listed();
        x.day(3);
        c.due("gone", x.gone(1, 9), 1);
        byte[] unknown = Checks.bytes(0, 0, 0, 2, 0x70, 0xf9, 0, 1, 1, 0, 0, 0, 1, 1, 0, 0, 0, 0);
        c.due("gone then", Checks.tell(x, unknown).check(9), 2);
        x.as(2);
        c.due("as known ahead", Checks.tell(x, unknown).check(9), NONE);
    }

    private static void outNone() {
        c.sentence("43: Byte i of OUT; NONE if there is none such");
        DoorOffice x = listed();
        c.due("ahead of any", x.out(0), NONE);
        x.list(5);
        for (int i = 0; i < 18; i++) {
            c.due("out(" + i + ")", x.out(i), DAY_5[i]);
        }
        for (int i : new int[] {-1, 18, 1199, 1200, LEAST_INT, MOST_INT}) {
            c.due("out(" + i + ")", x.out(i), NONE);
        }
    }

    private static void countOfEach() {
        c.sentence("44: towns, streets, doors, PAPERS, SPANS of numbers, TODAY, SHORT forms, STOPS, LETTERS, doors FOUND, bytes of the tape");
        DoorOffice x = listed();
        Checks.town(x, "new");
        Checks.town(x, "far");
        x.day(1234);
        Checks.tell(x, "a b").shorten();
        x.stop(0, 0);
        x.stop(1, 0);
        x.stop(1, 1);
        x.stop(1, 2);
        Checks.letter(x, "oak 1a, old", 0);
        Checks.means(x, "oak 7, old", 9);
        Checks.tell(x, "twelve bytes");
        int[] due = {3, 2, 3, 7, 5, 1234, 1, 4, 1, 2, 12};
        for (int what = 0; what < due.length; what++) {
            c.due("count(" + what + ")", x.count(what), due[what]);
        }
        x.as(0);
        for (int what = 0; what < due.length; what++) {
            c.due("count(" + what + "), whatever is known", x.count(what), due[what]);
        }
    }

    private static void countRules() {
        c.sentence("44: Of street k (100 + k): its RULE");
        DoorOffice x = new DoorOffice();
        Checks.town(x, "old");
        for (int i = 0; i < 24; i++) {
            c.due("no street " + i + " yet", x.count(100 + i), NONE);
            Checks.street(x, "" + (char) ('a' + i), 0, i % 4, 0);
            c.due("street " + i, x.count(100 + i), i % 4);
        }
        c.due("street 24", x.count(124), NONE);
        x.renumber(23, 1, LAST);
        c.due("from the last day on", x.count(123), 1);
        x.undo();
        c.due("taken back", x.count(123), 3);
        x.undo();
        c.due("the street, too", x.count(123), NONE);
    }

    private static void countForOthers() {
        c.sentence("44: NONE for others");
        DoorOffice x = listed();
        for (int what : new int[] {-1, 11, 50, 99, 102, 200, LEAST_INT, MOST_INT, -100, LEAST_INT + 100}) {
            c.due("count(" + what + ")", x.count(what), NONE);
        }
    }
}

/** Promises 10, 11, 14, 17, 18 and 33: doors, corners, renumbering, ROWS, and the LEAST NUMBER. */
public final class NumbersTest {
    private static final Checks c = new Checks();

    public static void main(String[] args) {
        bySides();
        byRound();
        byPaces();
        byGiven();
        toldWholes();
        leastLetterFirst();
        refusedDoors();
        corners();
        renumberedByEachRule();
        keepsSpans();
        rowsGiven();
        rowsRefused();
        tearing();
        unknownPassedOver();
        c.finish();
    }

    private static int now(DoorOffice x, int door) {
        return x.number(door, 0, 109574, 0);
    }

    private static void bySides() {
        DoorOffice x = Checks.withStreet(0);
        c.due("left", x.door(0, 0, 10, 0, 0), 0);
        c.due("1", now(x, 0), 16);
        c.due("right", x.door(0, 1, 10, 0, 0), 1);
        c.due("2", now(x, 1), 32);
        x.door(0, 0, 20, 0, 0);
        c.due("3", now(x, 2), 48);
        c.due("free between", x.free(0, 0, 15), 17);
        c.due("free behind all", x.free(0, 0, 9999), 80);
        c.due("free ahead of all", x.free(0, 0, 0), -4);
        c.due("free at a door", x.free(0, 0, 20), -5);
        c.due("free right", x.free(0, 1, 11), 64);
        c.due("free, no street", x.free(1, 0, 0), -1);
        c.due("free, no street, side", x.free(-1, 5, 0), -1);
        c.due("free, side", x.free(0, 2, 0), -2);
        c.due("free, side", x.free(0, -1, 0), -2);
        c.due("free, paces", x.free(0, 0, -1), -2);
        c.due("free, paces", x.free(0, 0, 10000), -2);
    }

    private static void byRound() {
        DoorOffice x = Checks.withStreet(1);
        x.door(0, 0, 10, 0, 0);
        x.door(0, 0, 20, 0, 0);
        x.door(0, 1, 20, 0, 0);
        x.door(0, 1, 10, 0, 0);
        c.due("1 up the left", now(x, 0), 16);
        c.due("2 up the left", now(x, 1), 32);
        c.due("3 down the right", now(x, 2), 48);
        c.due("4 down the right", now(x, 3), 64);
        c.due("between 3 and 4", x.free(0, 1, 15), 49);
        c.due("behind 4", x.free(0, 1, 5), 80);
        c.due("between 2 and 3, left", x.free(0, 0, 30), 33);
        c.due("between 2 and 3, right", x.free(0, 1, 30), 33);
        c.due("ahead of 1", x.free(0, 0, 5), -4);
        c.due("told 4a", x.door(0, 1, 9, 65, 0), 4);
        c.due("told 4 again", x.door(0, 1, 8, 64, 0), -4);
        c.due("told 4a again", x.door(0, 1, 8, 65, 0), -4);
        c.due("told 2 on the right", x.door(0, 1, 8, 32, 0), -4);
    }

    private static void byPaces() {
        DoorOffice x = Checks.withStreet(2);
        x.door(0, 0, 25, 0, 0);
        c.due("5", now(x, 0), 80);
        x.door(0, 1, 25, 0, 0);
        c.due("6", now(x, 1), 96);
        x.door(0, 0, 27, 0, 0);
        c.due("5a", now(x, 2), 81);
        c.due("between 5 and 5a", x.free(0, 0, 26), -4);
        c.due("ahead of 5", x.free(0, 0, 20), -4);
        c.due("the next ten", x.free(0, 0, 30), 112);
        c.due("the last", x.free(0, 0, 9999), 16 * 1999);
        c.due("the last right", x.free(0, 1, 9999), 16 * 2000);
        c.due("the first", x.free(0, 0, 9), 16);
        c.due("other digits told", x.door(0, 0, 35, 96, 0), -4);
        c.due("its digits told, with a letter", x.door(0, 0, 35, 112 + 9, 0), 3);
        c.due("7 and a half", now(x, 3), 121);
        c.due("ahead of it", x.free(0, 0, 34), 112);
        c.due("behind it", x.free(0, 0, 36), -4);
    }

    private static void byGiven() {
        DoorOffice x = Checks.withStreet(3);
        x.door(0, 0, 10, 0, 0);
        x.door(0, 1, 10, 0, 0);
        c.due("1 left", now(x, 0), 16);
        c.due("2 right: 1 is had", now(x, 1), 32);
        c.due("3 left", x.free(0, 0, 20), 48);
        c.due("3 right", x.free(0, 1, 20), 48);
        c.due("1 right: had on the left", x.free(0, 1, 5), 17);
    }

    private static void toldWholes() {
        DoorOffice x = Checks.withStreet(0);
        c.due("9999+ left", x.door(0, 0, 50, 159993, 0), 0);
        c.due("none above", x.free(0, 0, 51), -4);
        c.due("9998+ right", x.door(0, 1, 50, 159977, 0), 1);
        c.due("even digits left", x.door(0, 0, 10, 32, 0), -4);
        c.due("odd digits right", x.door(0, 1, 10, 16, 0), -4);
        c.due("15", x.door(0, 0, 10, 15, 0), -2);
        c.due("1", x.door(0, 0, 10, 1, 0), -2);
        c.due("letter 10", x.door(0, 0, 10, 26, 0), -2);
        c.due("160000", x.door(0, 0, 10, 160000, 0), -2);
        c.due("159994", x.door(0, 0, 10, 159994, 0), -2);
        c.due("-1", x.door(0, 0, 10, -1, 0), -2);
        c.due("-16", x.door(0, 0, 10, -16, 0), -2);
        c.due("16", x.door(0, 0, 10, 16, 0), 2);
        c.due("the same above", x.door(0, 0, 20, 16, 0), -4);
        c.due("below the one behind", x.door(0, 0, 20, 16, 0), -4);
        c.due("5c", x.door(0, 0, 20, 83, 0), 3);
        c.due("5d ahead of it", x.door(0, 0, 15, 84, 0), -4);
        c.due("5b ahead of it", x.door(0, 0, 15, 82, 0), 4);
        c.due("one told at a door's place that is a candidate", x.door(0, 0, 20, 89, 0), -5);
        c.due("one told at a door's place below it", x.door(0, 0, 20, 82, 0), -4);
    }

    private static void leastLetterFirst() {
        DoorOffice x = Checks.withStreet(0);
        x.door(0, 0, 10, 16, 0);
        x.door(0, 0, 90, 80, 0);
        c.due("3 ahead of 1a", x.free(0, 0, 50), 48);
        x.door(0, 0, 50, 0, 0);
        c.due("1a", x.free(0, 0, 20), 17);
        c.due("3a", x.free(0, 0, 60), 49);
        int[] want = {17, 18, 19, 20, 21, 22, 23, 24, 25};
        for (int i = 0; i < want.length; i++) {
            int door = x.door(0, 0, 20 + i, 0, 0);
            c.due("put between " + i, now(x, door), want[i]);
        }
        c.due("none left behind +", x.free(0, 0, 40), -4);
        c.due("none left, door()", x.door(0, 0, 40, 0, 0), -4);
        c.due("none left stands ahead of a second one", x.door(0, 0, 24, 0, 0), -4);
    }

    private static void refusedDoors() {
        DoorOffice x = Checks.withStreet(0);
        c.due("street", x.door(1, 5, 0, 0, 0), -1);
        c.due("side", x.door(0, -1, 0, 0, 0), -2);
        c.due("paces", x.door(0, 0, -1, 0, 0), -2);
        c.due("paces", x.door(0, 0, 10000, 0, 0), -2);
        c.due("day", x.door(0, 0, 0, 0, -1), -2);
        c.due("day", x.door(0, 0, 0, 0, 109575), -2);
        c.due("first", x.door(0, 0, 0, 0, 20), 0);
        c.due("too early", x.door(0, 0, 9999, 0, 19), -3);
        c.due("too early and a second one", x.door(0, 0, 0, 0, 19), -3);
        c.due("second one", x.door(0, 0, 0, 0, 20), -5);
        c.due("other side", x.door(0, 1, 0, 0, 20), 1);
        c.due("count(2)", x.count(2), 2);
        c.due("count(3)", x.count(3), 3);
        c.due("count(4)", x.count(4), 2);
        c.due("gone", x.gone(0, 30), 1);
        c.due("its place is free", x.free(0, 0, 0), 16);
        c.due("there anew", x.door(0, 0, 0, 0, 30), 2);
        c.due("its number again", now(x, 2), 16);
    }

    private static void corners() {
        DoorOffice x = Checks.withStreet(0);
        Checks.street(x, "oak", 0, 0, 0);
        x.door(0, 0, 10, 0, 0);
        x.door(1, 0, 10, 0, 5);
        c.due("no street", x.corner(0, 2, 0, 20, 0, 5), -1);
        c.due("no door", x.corner(2, 1, 0, 20, 0, 5), -1);
        c.due("door -1", x.corner(-1, 1, 9, 20, 0, 5), -1);
        c.due("the same street", x.corner(0, 0, 0, 20, 0, 5), -2);
        c.due("side", x.corner(0, 1, 2, 20, 0, 5), -2);
        c.due("paces", x.corner(0, 1, 0, 10000, 0, 5), -2);
        c.due("whole", x.corner(0, 1, 0, 20, 15, 5), -2);
        c.due("day", x.corner(0, 1, 0, 20, 0, -1), -2);
        c.due("below a paper of the other street", x.corner(0, 1, 0, 20, 0, 4), -3);
        c.due("no candidate", x.corner(0, 1, 0, 20, 32, 5), -4);
        c.due("none left", x.corner(0, 1, 0, 5, 0, 5), -4);
        c.due("second one", x.corner(0, 1, 0, 10, 0, 5), -5);
        c.due("nothing changed", x.about(0, 0), 0);
        c.due("corner", x.corner(0, 1, 0, 20, 0, 6), 48);
        c.due("sort", x.about(0, 0), 1);
        c.due("its second place", x.about(0, 5), 1);
        c.due("not on the day ahead", x.number(0, 1, 5, 0), -1);
        c.due("on the day", x.number(0, 1, 6, 0), 48);
        c.due("a corner already", x.corner(0, 1, 0, 30, 0, 6), -1);
        c.due("it is on the first street, too", x.door(0, 0, 20, 0, 5), -3);
        c.due("it stands in the second street", x.door(1, 0, 20, 0, 6), -5);
        c.due("its number is had there", x.door(1, 0, 30, 48, 6), -4);
        c.due("a told one", x.corner(1, 0, 1, 99, 105, 7), 105);
        c.due("below that on both", x.gone(0, 6), -3);
        c.due("gone from both", x.gone(0, 7), 1);
        c.due("not there any more", x.number(0, 1, 7, 0), -1);
        c.due("there still", x.number(0, 1, 6, 0), 48);
        c.due("ever made a corner", x.about(0, 0), 1);
        c.due("not of one that is gone", x.corner(0, 1, 0, 30, 0, 8), -1);
        c.due("spans", x.count(4), 4);
    }

    private static DoorOffice sixDoors(int rule) {
        DoorOffice x = Checks.withStreet(rule);
        int[][] places = {{0, 10}, {0, 12}, {0, 35}, {1, 10}, {1, 20}, {1, 21}};
        for (int[] place : places) {
            x.door(0, place[0], place[1], 0, 0);
        }
        return x;
    }

    private static void dueWholes(String what, DoorOffice x, int... wholes) {
        for (int i = 0; i < wholes.length; i++) {
            c.due(what + ", door " + i, now(x, i), wholes[i]);
        }
    }

    private static void renumberedByEachRule() {
        DoorOffice x = sixDoors(0);
        dueWholes("by sides", x, 16, 48, 80, 32, 64, 96);
        c.due("renumber 1", x.renumber(0, 1, 1), 5);
        dueWholes("round", x, 16, 32, 48, 96, 80, 64);
        c.due("rule", x.count(100), 1);
        c.due("renumber 2", x.renumber(0, 2, 2), 6);
        dueWholes("by paces", x, 48, 49, 112, 64, 96, 97);
        c.due("rule", x.count(100), 2);
        Checks.tell(x, Checks.wholes(17, 33)).row(0, 0);
        Checks.tell(x, Checks.wholes(16, 18, 0x8009, 5)).row(0, 1);
        c.due("renumber 3", x.renumber(0, 3, 3), 6);
        dueWholes("as given", x, 17, 33, 0, 16, 18, 0x8009);
        c.due("rule", x.count(100), 3);
        c.due("renumber 0", x.renumber(0, 0, 3), 6);
        dueWholes("by sides", x, 16, 48, 80, 32, 64, 96);
        c.due("no doors", Checks.withStreet(1).renumber(0, 0, 0), 0);
        c.due("street", x.renumber(1, 9, 0), -1);
        c.due("rule 4", x.renumber(0, 4, 0), -2);
        c.due("rule -1", x.renumber(0, -1, 0), -2);
        c.due("day", x.renumber(0, 0, 109575), -2);
        c.due("too early", x.renumber(0, 0, 2), -3);
        c.due("papers", x.count(3), 11);
    }

    private static void keepsSpans() {
        DoorOffice x = sixDoors(0);
        c.due("spans", x.count(4), 6);
        c.due("the same again", x.renumber(0, 0, 5), 0);
        c.due("no spans more", x.count(4), 6);
        c.due("a paper", x.count(3), 8);
        x.renumber(0, 1, 9);
        c.due("five spans more", x.count(4), 11);
        c.due("1 from", x.number(0, 0, 20, 1), 0);
        c.due("1 open", x.number(0, 0, 20, 2), -1);
        c.due("3 to", x.number(1, 0, 8, 2), 9);
        c.due("2 from", x.number(1, 0, 9, 1), 9);
        c.due("all unknown", x.renumber(0, 3, 10), 6);
        c.due("unknown stays unknown", x.renumber(0, 3, 11), 0);
        c.due("unknown from", x.number(1, 0, 12, 1), 10);
        c.due("unknown", x.number(1, 0, 12, 0), 0);
    }

    private static void rowsGiven() {
        int[][] wrong = {{32, 16, 48}, {16, 16, 48}, {16, 26, 48}, {15, 16, 48}, {0, 16, 48}, {16, 32, 31}};
        for (int[] row : wrong) {
            DoorOffice x = sixDoors(0);
            Checks.tell(x, Checks.wholes(row)).row(0, 0);
            c.due("none left by a row", x.renumber(0, 3, 1), -4);
            c.due("nothing changed", x.count(100), 0);
            dueWholes("nothing changed", x, 16, 48, 80, 32, 64, 96);
        }
        DoorOffice x = sixDoors(0);
        Checks.tell(x, Checks.wholes(16, 32, 48, 1, 2)).row(0, 0);
        Checks.tell(x, Checks.wholes(1600, 1601, 32)).row(0, 1);
        c.due("falls on a side", x.renumber(0, 3, 1), -4);
        Checks.tell(x, Checks.wholes(8, 9)).row(0, 1);
        x.tear(0, 1, 0);
        c.due("wholes behind the doors do not matter", x.renumber(0, 3, 1), 5);
        dueWholes("given", x, 16, 32, 48, 0, 0, 0);
        Checks.tell(x, Checks.wholes(48, 64, 80)).row(0, 1);
        c.due("two the same on two sides", x.renumber(0, 3, 1), -4);
        Checks.tell(x, Checks.wholes(1, 2, 3)).row(0, 0);
        x.tear(0, 0, -1);
        c.due("a burnt row does not matter", x.renumber(0, 3, 1), 6);
        dueWholes("given", x, 0, 0, 0, 48, 64, 80);
    }

    private static void rowsRefused() {
        DoorOffice x = Checks.withStreet(3);
        c.due("no street", Checks.tell(x, Checks.wholes(16)).row(1, 0), -1);
        c.due("the tape went", x.count(10), 0);
        c.due("no street, side", Checks.tell(x, "abc").row(-1, 7), -1);
        c.due("side", Checks.tell(x, Checks.wholes(16)).row(0, 2), -2);
        c.due("side", Checks.tell(x, Checks.wholes(16)).row(0, -1), -2);
        c.due("odd", Checks.tell(x, "abc").row(0, 0), -2);
        c.due("the tape went", x.count(10), 0);
        c.due("never there", x.tear(0, 0, 3), -1);
        c.due("empty", Checks.tell(x, "").row(0, 0), 0);
        c.due("it had none", x.tear(0, 0, 3), 0);
        c.due("600 wholes", Checks.tell(x, new byte[1200]).row(0, 1), 600);
        c.due("it had 600", x.tear(0, 1, 599), 600);
        c.due("it had 599", x.tear(0, 1, 700), 599);
        c.due("no paper", x.count(3), 1);
    }

    private static void tearing() {
        DoorOffice x = sixDoors(3);
        Checks.tell(x, Checks.wholes(16, 32, 48)).row(0, 0);
        c.due("street", x.tear(1, 0, 0), -1);
        c.due("street and n", x.tear(-1, 0, -5), -1);
        c.due("side", x.tear(0, 2, 0), -1);
        c.due("n", x.tear(0, 0, -2), -2);
        c.due("behind two", x.tear(0, 0, 2), 3);
        c.due("behind more", x.tear(0, 0, 3), 2);
        c.due("renumber", x.renumber(0, 3, 1), 4);
        c.due("the second", now(x, 1), 32);
        c.due("the third", now(x, 2), 0);
        c.due("burnt", x.tear(0, 0, -1), 2);
        c.due("burnt already", x.tear(0, 0, -1), -1);
        c.due("burnt stays burnt", x.tear(0, 0, 5), -1);
        c.due("renumber", x.renumber(0, 3, 1), 2);
        c.due("burnt, the first", now(x, 0), 0);
    }

    private static void unknownPassedOver() {
        DoorOffice x = sixDoors(0);
        Checks.tell(x, Checks.wholes(80)).row(0, 0);
        x.renumber(0, 3, 1);
        c.due("behind 5 and two unknown", x.free(0, 0, 40), 96);
        c.due("between the unknown", x.free(0, 0, 20), 96);
        c.due("ahead of 5", x.free(0, 0, 5), 16);
        c.due("all unknown", x.free(0, 1, 15), 16);
        x.door(0, 1, 15, 0, 1);
        c.due("below the known one", x.free(0, 1, 5), -4);
        c.due("above it", x.free(0, 1, 25), 32);
    }
}

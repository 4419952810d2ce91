/** Promises 41 and 42: lists and how they are checked. */
public final class ListTest {
    private static final Checks c = new Checks();

    public static void main(String[] args) {
        lists();
        checks();
        checksOnDays();
        longLists();
        c.finish();
    }

    private static void dueOut(String what, DoorOffice x, int... bytes) {
        StringBuilder want = new StringBuilder();
        for (int value : bytes) {
            want.append((char) value);
        }
        c.due(what, Checks.out(x), want.toString());
    }

    private static DoorOffice office() {
        DoorOffice x = Checks.withStreet(3);
        Checks.street(x, "oak", 0, 3, 0);
        x.door(0, 0, 10, 9999 * 16 + 9, 0);
        x.door(1, 0, 10, 0, 0);
        x.under(2, 0, 0, 0);
        x.corner(0, 1, 1, 10, 256 + 16, 5);
        x.renumber(1, 3, 9);
        return x;
    }

    private static void lists() {
        DoorOffice x = office();
        c.due("day 0", x.list(0), 12);
        dueOut("day 0", x, 0, 0, 0, 2, 0x70, 0xf9, 1, 1, 0, 0, 0, 16);
        c.due("day 5", x.list(5), 18);
        dueOut("day 5", x, 0, 0, 0, 2, 0x70, 0xf9, 0, 1, 1, 0, 1, 16, 1, 1, 0, 0, 0, 16);
        c.due("day 9", x.list(9), 18);
        dueOut("day 9", x, 0, 0, 0, 2, 0x70, 0xf9, 0, 1, 1, 0, 0, 0, 1, 1, 0, 0, 0, 0);
        c.due("no day", x.list(-1), -2);
        c.due("no day", x.list(109575), -2);
        c.due("OUT stays", x.out(0), 0);
        c.due("take", x.take(), 18);
        c.due("check", x.check(9), -1);
        c.due("the tape went", x.count(10), 0);
        x.gone(0, 20);
        c.due("gone", x.list(20), 6);
        x.day(30);
        x.gone(1, 20);
        c.due("all gone", x.list(20), 0);
        c.due("none", x.out(0), -1);
        x.as(29);
        c.due("as known", x.list(20), 6);
    }

    private static int check(DoorOffice x, int day, int... bytes) {
        return Checks.tell(x, Checks.bytes(bytes)).check(day);
    }

    private static void checks() {
        DoorOffice x = office();
        c.due("all, in another order", check(x, 5, 1, 1, 0, 0, 0, 16, 0, 1, 1, 0, 1, 16, 0, 0, 0, 2, 0x70, 0xf9), -1);
        c.due("none told", check(x, 5), 1000);
        c.due("the first lacks one place", check(x, 5, 1, 1, 0, 0, 0, 16, 0, 1, 1, 0, 1, 16), 1000);
        c.due("the first lacks the other place", check(x, 5, 1, 1, 0, 0, 0, 16, 0, 0, 0, 2, 0x70, 0xf9), 1000);
        c.due("the second lacks", check(x, 5, 0, 1, 1, 0, 1, 16, 0, 0, 0, 2, 0x70, 0xf9), 1001);
        c.due("wrong whole", check(x, 5, 1, 1, 0, 0, 0, 17), 0);
        c.due("wrong street", check(x, 5, 1, 0, 0, 0, 0, 16), 0);
        c.due("wrong place", check(x, 5, 1, 1, 1, 0, 0, 16), 0);
        c.due("place 2", check(x, 5, 1, 1, 2, 0, 0, 16), 0);
        c.due("wrong door", check(x, 5, 3, 1, 0, 0, 0, 16), 0);
        c.due("a back", check(x, 5, 2, 0, 0, 0, 0, 0), 0);
        c.due("door 255", check(x, 5, 255, 255, 255, 255, 255, 255), 0);
        c.due("door 255, place 0", check(x, 5, 255, 0, 0, 0, 0, 0), 0);
        c.due("door 99, place 1", check(x, 5, 99, 0, 1, 255, 255, 255), 0);
        c.due("door 0, place 2 is not door 1", check(x, 5, 0, 1, 2, 0, 0, 16), 0);
        c.due("door 0, place 255", check(x, 5, 0, 1, 255, 0, 0, 16), 0);
        c.due("the second time", check(x, 5, 1, 1, 0, 0, 0, 16, 1, 1, 0, 0, 0, 16), 1);
        c.due("a piece", check(x, 5, 1, 1, 0, 0, 0, 16, 0, 1, 1, 0, 1), 1);
        c.due("a piece alone", check(x, 5, 1), 0);
        c.due("a piece behind all", check(x, 5, 1, 1, 0, 0, 0, 16, 0, 1, 1, 0, 1, 16, 0, 0, 0, 2, 0x70, 0xf9, 0), 3);
        c.due("the first of two wrong", check(x, 5, 1, 1, 0, 0, 0, 16, 9, 9, 9, 9, 9, 9, 1, 1, 0, 0, 0, 16), 1);
        c.due("no day", check(x, -1, 1, 2, 3), -2);
        c.due("the tape went", x.count(10), 0);
        c.due("no day", check(x, 109575), -2);
        c.due("OUT was never there", x.out(0), -1);
    }

    private static void checksOnDays() {
        DoorOffice x = office();
        c.due("day 0", check(x, 0, 1, 1, 0, 0, 0, 16, 0, 0, 0, 2, 0x70, 0xf9), -1);
        c.due("not a corner yet", check(x, 0, 0, 1, 1, 0, 1, 16), 0);
        c.due("unknown", check(x, 9, 1, 1, 0, 0, 0, 0, 0, 0, 0, 2, 0x70, 0xf9, 0, 1, 1, 0, 0, 0), -1);
        c.due("not unknown", check(x, 9, 1, 1, 0, 0, 0, 16), 0);
        x.day(3);
        x.gone(1, 9);
        c.due("gone", check(x, 9, 1, 1, 0, 0, 0, 0), 0);
        x.as(2);
        c.due("as known", check(x, 9, 1, 1, 0, 0, 0, 0), 1000);
        c.due("nothing on an empty day", new DoorOffice().check(0), -1);
    }

    private static void longLists() {
        DoorOffice x = Checks.withStreet(3);
        Checks.street(x, "oak", 0, 3, 0);
        for (int i = 0; i < 99; i++) {
            x.door(0, 0, i, 0, 0);
            x.corner(i, 1, 0, i, 0, 0);
        }
        c.due("198 records", x.list(0), 1188);
        c.due("take", x.take(), 1188);
        c.due("check", x.check(0), -1);
        c.due("papers are full", x.door(0, 0, 100, 0, 0), -6);
    }
}

/** Promises 12, 13, 22 and 23: what is under doors, doors that are gone, about doors, and whether they stand. */
public final class UnderTest {
    private static final Checks c = new Checks();

    public static void main(String[] args) {
        unders();
        refusedUnders();
        goneWithUnder();
        refusedGone();
        abouts();
        standing();
        c.finish();
    }

    private static DoorOffice twoDoors() {
        DoorOffice x = Checks.withStreet(0);
        Checks.street(x, "oak", 0, 0, 0);
        x.door(0, 0, 10, 0, 0);
        x.door(0, 1, 10, 0, 0);
        return x;
    }

    private static void unders() {
        DoorOffice x = twoDoors();
        c.due("back", x.under(2, 0, 0, 5), 2);
        c.due("second back", x.under(2, 0, 0, 5), -5);
        c.due("back of the other", x.under(2, 1, 0, 5), 3);
        c.due("court 1", x.under(3, 2, 1, 5), 4);
        c.due("court 99", x.under(3, 2, 99, 5), 5);
        c.due("court 1 again", x.under(3, 2, 1, 6), -5);
        c.due("court 1 of the other", x.under(3, 3, 1, 5), 6);
        c.due("floor 1", x.under(4, 0, 1, 5), 7);
        c.due("floor 99", x.under(4, 0, 99, 5), 8);
        c.due("floor 1 again", x.under(4, 0, 1, 5), -5);
        x.corner(0, 1, 0, 3, 0, 7);
        c.due("floor of a corner", x.under(4, 0, 2, 7), 9);
        c.due("papers", x.count(3), 13);
        c.due("spans of numbers", x.count(4), 3);
        c.due("too early", x.under(3, 2, 2, 6), -3);
        x.door(1, 0, 90, 0, 20);
        c.due("too early by the second street of its front", x.under(3, 2, 2, 19), -3);
        c.due("then", x.under(3, 2, 2, 20), 11);
        c.due("it is a paper on both", x.door(0, 0, 95, 0, 19), -3);
        c.due("too early and there", x.under(3, 2, 1, 6), -3);
        x.under(3, 2, 3, 25);
        c.due("it is a paper on the second street", x.door(1, 0, 95, 0, 24), -3);
        x.gone(12, 30);
        c.due("gone is a paper on the second street", x.door(1, 0, 95, 0, 29), -3);
        c.due("gone is a paper on the first street", x.door(0, 0, 95, 0, 29), -3);
    }

    private static void refusedUnders() {
        DoorOffice x = twoDoors();
        x.under(2, 0, 0, 5);
        x.under(3, 2, 1, 5);
        x.under(4, 0, 1, 5);
        c.due("no door", x.under(2, 9, 0, 5), -1);
        c.due("no door, sort", x.under(9, -1, 0, 5), -1);
        c.due("back under a back", x.under(2, 2, 0, 5), -1);
        c.due("back under a court", x.under(2, 3, 0, 5), -1);
        c.due("back under a floor", x.under(2, 4, 0, 5), -1);
        c.due("court under a door", x.under(3, 0, 1, 5), -1);
        c.due("court under a court", x.under(3, 3, 1, 5), -1);
        c.due("court under a floor", x.under(3, 4, 1, 5), -1);
        c.due("floor under a back", x.under(4, 2, 1, 5), -1);
        c.due("floor under a court", x.under(4, 3, 1, 5), -1);
        c.due("floor under a floor", x.under(4, 4, 1, 5), -1);
        c.due("wrong over and k", x.under(4, 4, 0, -5), -1);
        for (int sort : new int[] {-1, 0, 1, 5}) {
            c.due("sort " + sort, x.under(sort, 1, 0, 5), -2);
        }
        c.due("back 1", x.under(2, 1, 1, 5), -2);
        c.due("court 0", x.under(3, 2, 0, 5), -2);
        c.due("court 100", x.under(3, 2, 100, 5), -2);
        c.due("floor 0", x.under(4, 0, 0, 5), -2);
        c.due("floor 100", x.under(4, 0, 100, 5), -2);
        c.due("floor -1", x.under(4, 0, -1, 5), -2);
        c.due("day -1", x.under(4, 0, 2, -1), -2);
        c.due("day 109575", x.under(4, 0, 2, 109575), -2);
        c.due("nothing changed", x.count(3), 7);
        c.due("nothing changed", x.count(2), 5);
    }

    private static void goneWithUnder() {
        DoorOffice x = twoDoors();
        x.under(2, 0, 0, 5);
        x.under(3, 2, 1, 5);
        x.under(3, 2, 2, 5);
        x.under(4, 0, 1, 5);
        x.under(2, 1, 0, 5);
        c.due("a court", x.gone(3, 8), 1);
        c.due("a court may be there again", x.under(3, 2, 1, 8), 7);
        c.due("the back with two courts", x.gone(2, 9), 3);
        c.due("the floor stands", x.stands(5, 9), true);
        c.due("a new back", x.under(2, 0, 0, 9), 8);
        c.due("under the old one none", x.under(3, 2, 5, 9), -1);
        c.due("door, new back, floor", x.gone(0, 12), 3);
        c.due("on the day ahead", x.stands(0, 11), true);
        c.due("on the day", x.stands(0, 12), false);
        c.due("the back on the day ahead", x.stands(8, 11), true);
        c.due("the back on the day", x.stands(8, 12), false);
        c.due("the first court kept its day", x.stands(3, 8), false);
        c.due("the other back", x.stands(6, 12), true);
        c.due("number's end", x.number(0, 0, 11, 2), 12);
        c.due("no spans more", x.count(4), 2);
        c.due("taken back", x.undo(), 13);
        c.due("stands again", x.stands(0, 12), true);
        c.due("floor stands again", x.stands(5, 12), true);
        c.due("what was gone before does not", x.stands(2, 12), false);
        c.due("number again", x.number(0, 0, 12, 0), 16);
    }

    private static void refusedGone() {
        DoorOffice x = twoDoors();
        x.under(2, 0, 0, 5);
        c.due("none such", x.gone(3, 9), -1);
        c.due("none such", x.gone(-1, -1), -1);
        c.due("day", x.gone(0, -1), -2);
        c.due("day", x.gone(0, 109575), -2);
        c.due("too early", x.gone(0, 4), -3);
        c.due("too early for what is under it", x.gone(2, 4), -3);
        c.due("in times to come", x.gone(0, 100), 2);
        c.due("it stands now", x.stands(0, 50), true);
        c.due("but it is gone once", x.gone(0, 200), -1);
        c.due("with its back", x.gone(2, 200), -1);
        c.due("nothing under it", x.under(4, 0, 1, 100), -1);
    }

    private static void abouts() {
        DoorOffice x = twoDoors();
        x.corner(0, 1, 1, 33, 0, 1);
        x.under(2, 0, 0, 5);
        x.under(3, 2, 7, 5);
        x.under(4, 1, 9, 5);
        int[][] want = {
            {1, 0, 0, 0, 10, 1, 1, 33, 0, -1},
            {0, 1, 0, 1, 10, -1, -1, -1, 0, -1},
            {2, 0, -1, -1, -1, -1, -1, -1, 0, 0},
            {3, 0, -1, -1, -1, -1, -1, -1, 7, 2},
            {4, 1, -1, -1, -1, -1, -1, -1, 9, 1}};
        for (int door = 0; door < want.length; door++) {
            for (int what = 0; what < 10; what++) {
                c.due("about(" + door + ", " + what + ")", x.about(door, what), want[door][what]);
            }
            c.due("about(" + door + ", 10)", x.about(door, 10), -1);
            c.due("about(" + door + ", -1)", x.about(door, -1), -1);
        }
        c.due("none such", x.about(5, 0), -1);
        c.due("none such", x.about(-1, 0), -1);
        c.due("none such", x.about(Integer.MAX_VALUE, 0), -1);
        x.undo();
        x.undo();
        x.undo();
        x.undo();
        c.due("a corner taken back", x.about(0, 0), 0);
        c.due("its second place taken back", x.about(0, 7), -1);
    }

    private static void standing() {
        DoorOffice x = Checks.withStreet(0);
        x.day(10);
        x.door(0, 0, 10, 0, 50);
        x.day(20);
        x.gone(0, 60);
        c.due("ahead", x.stands(0, 49), false);
        c.due("from", x.stands(0, 50), true);
        c.due("last", x.stands(0, 59), true);
        c.due("gone", x.stands(0, 60), false);
        c.due("none such", x.stands(1, 55), false);
        c.due("none such", x.stands(-1, 55), false);
        c.due("no day", x.stands(0, -1), false);
        x.as(19);
        c.due("as known ahead of the gone paper", x.stands(0, 60), true);
        c.due("the last day", x.stands(0, 109574), true);
        c.due("no day", x.stands(0, 109575), false);
        x.as(9);
        c.due("as known ahead of the door's paper", x.stands(0, 55), false);
        x.as(-1);
        x.door(0, 0, 11, 0, 60);
        x.gone(1, 60);
        c.due("a span without a day", x.stands(1, 60), false);
    }
}

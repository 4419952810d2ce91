/** Promises 31, 32 and 34: doors that would answer to one call, and the nearest door. */
public final class PairsTest {
    private static final Checks c = new Checks();

    public static void main(String[] args) {
        streetsOfOneName();
        townsJoined();
        refusedPairs();
        nearest();
        nearestOnDays();
        c.finish();
    }

    private static DoorOffice towns() {
        DoorOffice x = new DoorOffice();
        Checks.town(x, "old");
        Checks.town(x, "new");
        Checks.street(x, "elm", 0, 3, 0);
        Checks.street(x, "oak", 0, 3, 0);
        Checks.street(x, "oak", 1, 3, 0);
        Checks.street(x, "elm", 1, 3, 0);
        Checks.street(x, "ash", 1, 3, 0);
        return x;
    }

    private static void streetsOfOneName() {
        DoorOffice x = towns();
        x.door(0, 0, 10, 80, 0);
        x.door(0, 1, 10, 32, 0);
        x.door(0, 1, 20, 33, 0);
        x.door(1, 0, 10, 32, 0);
        x.door(1, 1, 10, 80, 0);
        x.door(1, 1, 20, 81, 0);
        c.due("elm as oak", x.twice(0, 0, 1), 2);
        c.due("by wholes", Checks.pairs(x), "1-3 0-4");
        c.due("oak as elm", x.twice(0, 1, 0), 2);
        c.due("by wholes", Checks.pairs(x), "3-1 4-0");
        x.gone(4, 100);
        c.due("gone, by open spans", x.twice(0, 0, 1), 1);
        c.due("gone, by open spans", Checks.pairs(x), "1-3");
        x.as(0);
        x.renumber(0, 3, 0);
        x.renumber(1, 3, 100);
        c.due("unknown ones are not alike", x.twice(0, 0, 1), 0);
        c.due("none", x.pair(0, 0), -1);
        x.undo();
        x.undo();
        x.corner(5, 0, 0, 99, 0, 100);
        c.due("a corner's second number", x.number(5, 1, 100, 0), 96);
        x.door(1, 0, 99, 96, 100);
        x.twice(0, 0, 1);
        c.due("with a corner", Checks.pairs(x), "1-3 5-6");
        x.as(-1);
        manyPairs();
    }

    private static void manyPairs() {
        DoorOffice x = towns();
        int[] wholes = {640, 480, 560, 320, 160, 400};
        for (int i = 0; i < wholes.length; i++) {
            int other = wholes[wholes.length - 1 - i];
            x.door(0, 0, wholes[i], wholes[i], 0);
            x.door(1, 1, other, other, 0);
        }
        c.due("six pairs", x.twice(0, 0, 1), 6);
        int last = 0;
        for (int i = 0; i < 6; i++) {
            int whole = x.number(x.pair(i, 0), 0, 0, 0);
            c.due("pair " + i + " of like numbers", x.number(x.pair(i, 1), 0, 0, 0), whole);
            c.due("pair " + i + " in order", whole > last, true);
            last = whole;
        }
    }

    private static void townsJoined() {
        DoorOffice x = towns();
        for (int street = 0; street < 5; street++) {
            x.door(street, 0, 10, 0, 0);
            x.door(street, 0, 20, 0, 0);
        }
        c.due("new joined to old", x.twice(1, 0, 1), 4);
        c.due("by streets of a", Checks.pairs(x), "0-6 1-7 2-4 3-5");
        c.due("pair(0, 2)", x.pair(0, 2), -1);
        c.due("pair(0, -1)", x.pair(0, -1), -1);
        c.due("pair(4, 0)", x.pair(4, 0), -1);
        c.due("pair(-1, 0)", x.pair(-1, 0), -1);
        c.due("old joined to new", x.twice(1, 1, 0), 4);
        c.due("by streets of a", Checks.pairs(x), "4-2 5-3 6-0 7-1");
        Checks.rename(x, "yew", 2, 50);
        c.due("renamed, by open spans", x.twice(1, 0, 1), 2);
        c.due("renamed, by open spans", Checks.pairs(x), "0-6 1-7");
    }

    private static void refusedPairs() {
        DoorOffice x = towns();
        x.door(0, 0, 10, 0, 0);
        x.door(1, 0, 10, 0, 0);
        c.due("one", x.twice(0, 0, 1), 1);
        c.due("no street", x.twice(0, 0, 5), -1);
        c.due("no street", x.twice(0, -1, 0), -1);
        c.due("no street", x.twice(0, 0, -1), -1);
        c.due("no street", x.twice(0, 5, 0), -1);
        c.due("no streets, the same", x.twice(0, 7, 7), -1);
        c.due("no town", x.twice(1, 0, 2), -1);
        c.due("no town", x.twice(1, -1, 1), -1);
        c.due("kind 2", x.twice(2, 0, 1), -2);
        c.due("kind -1", x.twice(-1, 0, 1), -2);
        c.due("the same street", x.twice(0, 1, 1), -2);
        c.due("the same town", x.twice(1, 1, 1), -2);
        c.due("pairs stay", Checks.pairs(x), "0-1");
    }

    private static void nearest() {
        DoorOffice x = Checks.withStreet(1);
        Checks.street(x, "oak", 0, 0, 0);
        c.due("none", x.near(0, 0, 0, 0), -1);
        x.door(0, 0, 10, 0, 0);
        x.door(0, 0, 30, 0, 0);
        x.door(0, 1, 30, 0, 0);
        x.door(0, 1, 14, 0, 0);
        c.due("at it", x.near(0, 0, 10, 0), 0);
        c.due("this side", x.near(0, 1, 30, 0), 2);
        c.due("this side", x.near(0, 0, 30, 0), 1);
        c.due("the other side is nearer", x.near(0, 0, 13, 0), 3);
        c.due("alike: this side", x.near(0, 0, 12, 0), 0);
        c.due("alike: this side", x.near(0, 1, 12, 0), 3);
        c.due("alike on this side: fewer paces", x.near(0, 0, 20, 0), 3);
        x.gone(3, 1);
        c.due("alike on this side: fewer paces", x.near(0, 0, 20, 1), 0);
        c.due("far", x.near(0, 1, 9999, 1), 2);
        c.due("alike on the other side: fewer paces", x.near(0, 1, 0, 1), 0);
        x.corner(0, 1, 0, 500, 0, 5);
        c.due("a corner ahead of its day", x.near(1, 0, 0, 4), -1);
        c.due("a corner", x.near(1, 0, 0, 5), 0);
        c.due("street", x.near(2, 0, 0, 5), -1);
        c.due("street", x.near(-1, 0, 0, 5), -1);
        c.due("side", x.near(0, 2, 0, 5), -1);
        c.due("paces", x.near(0, 0, -1, 5), -1);
        c.due("paces", x.near(0, 0, 10000, 5), -1);
        c.due("day", x.near(0, 0, 0, -1), -1);
        c.due("day", x.near(0, 0, 0, 109575), -1);
        DoorOffice y = Checks.withStreet(1);
        y.door(0, 1, 10, 0, 0);
        y.door(0, 1, 30, 0, 0);
        c.due("alike on the other side: fewer paces", y.near(0, 0, 20, 0), 0);
    }

    private static void nearestOnDays() {
        DoorOffice x = Checks.withStreet(0);
        x.door(0, 0, 10, 0, 5);
        x.day(10);
        x.door(0, 0, 20, 0, 7);
        x.gone(0, 8);
        c.due("ahead", x.near(0, 0, 15, 4), -1);
        c.due("one", x.near(0, 0, 20, 6), 0);
        c.due("two", x.near(0, 0, 20, 7), 1);
        c.due("gone", x.near(0, 0, 10, 8), 1);
        x.as(9);
        c.due("as known", x.near(0, 0, 20, 8), 0);
        x.as(-1);
        x.under(2, 1, 0, 8);
        c.due("a back is none", x.near(0, 0, 20, 8), 1);
    }
}

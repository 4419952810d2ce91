/** Terms III: towns, streets, doors, the LEAST NUMBER and renumbering; each sentence has a test of its own. */
public final class BoundsNumbersTest {
    private static final int LAST = 109574;
    private static final int NONE = DoorOffice.NONE;
    private static final int MOST = 9999 * 16 + 9;
    private static final Checks c = new Checks();

    public static void main(String[] args) {
        upTo8Towns();
        upTo24Streets();
        upTo100Doors();
        noTwoTownsTheSame();
        rules();
        sides();
        paces();
        orderAlongSides();
        orderAlongRing();
        oneBackOfEach();
        courtsAndFloorsUpTo99();
        addressesOfUnders();
        lowWithoutADoor();
        highWithoutADoor();
        betweenLowAndHigh();
        unknownOnesPassedOver();
        onlyDoorsThatStand();
        numbersThatNoDoorHas();
        digitsUpTo9999();
        oddAndEvenDigits();
        digitsByPaces();
        leastLetterThenLeast();
        noneLeftUntilRenumbered();
        renumberedBySides();
        renumberedRound();
        renumberedByPaces();
        renumberedAsGiven();
        givenUnknown();
        givenNotRising();
        givenTwoTheSame();
        givenOutOfBounds();
        givenOnlyAsMuchAsIsGot();
        keepsItsSpan();
        c.finish();
    }

    private static int now(DoorOffice x, int door) {
        return x.number(door, 0, LAST, 0);
    }

    private static void row(DoorOffice x, int side, int... wholes) {
        Checks.tell(x, Checks.wholes(wholes)).row(0, side);
    }

    private static void upTo8Towns() {
        c.sentence("Up to 8 TOWNS");
        DoorOffice x = new DoorOffice();
        for (int i = 0; i < 8; i++) {
            c.due("town " + (i + 1), Checks.town(x, "" + (char) ('a' + i)), i);
        }
        c.due("a ninth", Checks.town(x, "z"), -6);
        c.due("eight", x.count(0), 8);
        x.join(0, 7, 0);
        c.due("a joined one leaves no room", Checks.town(x, "z"), -6);
        c.due("the eighth has a street", Checks.street(x, "elm", 6, 0, 0), 0);
    }

    private static void upTo24Streets() {
        c.sentence("24 STREETS");
        DoorOffice x = new DoorOffice();
        Checks.town(x, "old");
        Checks.town(x, "new");
        for (int i = 0; i < 24; i++) {
            c.due("street " + (i + 1), Checks.street(x, "" + (char) ('a' + i), i % 2, 0, 0), i);
        }
        c.due("a 25th", Checks.street(x, "z", 0, 0, 0), -6);
        c.due("in the other town", Checks.street(x, "z", 1, 0, 0), -6);
        c.due("24", x.count(1), 24);
        c.due("the 24th has a door", x.door(23, 1, 0, 0, 0), 0);
        c.due("the 24th has a row", Checks.tell(x, Checks.wholes(16, 32)).row(23, 1), 2);
        x.undo();
        x.undo();
        c.due("room for one", Checks.street(x, "z", 0, 0, 0), 23);
        c.due("for no more", Checks.street(x, "y", 0, 0, 0), -6);
    }

    private static void upTo100Doors() {
        c.sentence("100 DOORS");
        DoorOffice x = Checks.withStreet(3);
        Checks.street(x, "oak", 0, 3, 0);
        for (int i = 0; i < 99; i++) {
            c.due("door " + (i + 1), x.door(0, 0, i, 0, 0), i);
        }
        c.due("the hundredth", x.under(2, 98, 0, 0), 99);
        c.due("one more door", x.door(0, 0, 200, 0, 0), -6);
        c.due("one more back", x.under(2, 0, 0, 0), -6);
        c.due("one more court", x.under(3, 99, 1, 0), -6);
        c.due("one more floor", x.under(4, 0, 1, 0), -6);
        c.due("a corner is no door more", x.corner(98, 1, 0, 0, 0, 0), 16);
        c.due("100", x.count(2), 100);
        c.due("gone", x.gone(98, 0), 2);
        c.due("one that is gone leaves no room", x.door(0, 0, 200, 0, 0), -6);
        c.due("still 100", x.count(2), 100);
    }

    private static void noTwoTownsTheSame() {
        c.sentence("each with a NAME (no two the same)");
        DoorOffice x = new DoorOffice();
        c.due("a town", Checks.town(x, "old"), 0);
        c.due("another one", Checks.town(x, "old old"), 1);
        c.due("the same", Checks.town(x, "old"), -5);
        x.join(1, 0, 0);
        c.due("that of a joined one", Checks.town(x, "old"), -5);
        Checks.tell(x, "o old").shorten();
        c.due("the same by its short form", Checks.town(x, "o"), -5);
        c.due("the same by two short forms", Checks.town(x, "o o"), -5);
    }

    private static void rules() {
        c.sentence("a RULE: 0 SIDES, 1 ROUND, 2 PACES, 3 GIVEN");
        int[] wrong = {-1, 4, Integer.MIN_VALUE, Integer.MAX_VALUE};
        for (int rule : wrong) {
            DoorOffice x = Checks.withStreet(0);
            c.due("street by rule " + rule, Checks.street(x, "oak", 0, rule, 0), -2);
            c.due("renumber by rule " + rule, x.renumber(0, rule, 0), -2);
        }
        for (int rule = 0; rule < 4; rule++) {
            DoorOffice x = Checks.withStreet(3 - rule);
            c.due("street by rule " + rule, Checks.street(x, "oak", 0, rule, 0), 1);
            c.due("its rule", x.count(101), rule);
            c.due("renumber by rule " + rule, x.renumber(0, rule, 0), 0);
            c.due("its rule then", x.count(100), rule);
        }
    }

    private static void sides() {
        c.sentence("on a side of a street: 0 (left), 1");
        int[] wrong = {-1, 2, Integer.MIN_VALUE, Integer.MAX_VALUE};
        for (int side : wrong) {
            DoorOffice x = Checks.withStreet(3);
            Checks.street(x, "oak", 0, 3, 0);
            x.door(0, 0, 10, 0, 0);
            c.due("door on side " + side, x.door(0, side, 20, 0, 0), -2);
            c.due("corner on side " + side, x.corner(0, 1, side, 20, 0, 0), -2);
            c.due("free on side " + side, x.free(0, side, 20), -2);
            c.due("row of side " + side, Checks.tell(x, "ab").row(0, side), -2);
            c.due("tear of side " + side, x.tear(0, side, 0), NONE);
            c.due("near on side " + side, x.near(0, side, 20, 0), NONE);
        }
    }

    private static void paces() {
        c.sentence("at 0 .. 9999 paces");
        int[] wrong = {-1, 10000, Integer.MIN_VALUE, Integer.MAX_VALUE};
        for (int at : wrong) {
            DoorOffice x = Checks.withStreet(3);
            Checks.street(x, "oak", 0, 3, 0);
            x.door(0, 0, 10, 0, 0);
            c.due("door at " + at, x.door(0, 0, at, 0, 0), -2);
            c.due("corner at " + at, x.corner(0, 1, 0, at, 0, 0), -2);
            c.due("free at " + at, x.free(0, 0, at), -2);
            c.due("near " + at, x.near(0, 0, at, 0), NONE);
        }
        for (int at : new int[] {0, 9999}) {
            for (int side = 0; side < 2; side++) {
                DoorOffice x = Checks.withStreet(3);
                Checks.street(x, "oak", 0, 3, 0);
                c.due("free at " + at, x.free(0, side, at), 16);
                c.due("door at " + at, x.door(0, side, at, 0, 0), 0);
                c.due("its paces", x.about(0, 4), at);
                c.due("near " + at, x.near(0, side, at, 0), 0);
                c.due("corner at " + at, x.corner(0, 1, side, at, 0, 0), 16);
                c.due("its paces there", x.about(0, 7), at);
            }
        }
    }

    private static void orderAlongSides() {
        c.sentence("ORDER: by the others along each side by paces");
        DoorOffice x = Checks.withStreet(3);
        x.door(0, 0, 100, 160, 0);
        c.due("the other side, behind that door", x.door(0, 1, 200, 16, 0), 1);
        c.due("the other side, ahead of that door", x.door(0, 1, 50, 15 * 16, 0), -4);
        c.due("this side, behind that door", x.door(0, 0, 200, 32, 0), -4);
        c.due("this side, ahead of that door", x.door(0, 0, 50, 32, 0), 2);
        DoorOffice y = Checks.withStreet(0);
        y.door(0, 0, 100, 48, 0);
        c.due("by SIDES the other side is not bound", y.door(0, 1, 200, 32, 0), 1);
        c.due("by SIDES this side is", y.door(0, 0, 200, 16, 0), -4);
        DoorOffice z = Checks.withStreet(2);
        z.door(0, 0, 15, 57, 0);
        c.due("by PACES the other side is not bound", z.free(0, 1, 5), 32);
        c.due("by PACES this side is", z.free(0, 0, 16), -4);
    }

    private static void orderAlongRing() {
        c.sentence("by ROUND a RING: the doors of side 0 by paces, rising, then those of side 1 by paces, falling");
        DoorOffice x = Checks.withStreet(1);
        x.door(0, 0, 0, 160, 0);
        x.door(0, 0, 9999, 320, 0);
        x.door(0, 1, 9999, 480, 0);
        x.door(0, 1, 0, 640, 0);
        c.due("all four", x.count(2), 4);
        c.due("up the left", x.free(0, 0, 5000), 176);
        c.due("down the right", x.free(0, 1, 5000), 496);
        c.due("between the last left", x.door(0, 0, 9998, 304, 0), 4);
        c.due("not above the one ahead on the left", x.door(0, 0, 9997, 305, 0), -4);
        c.due("right behind the left", x.door(0, 1, 9998, 496, 0), 5);
        c.due("not below the one behind on the right", x.door(0, 1, 9997, 489, 0), -4);
        c.due("no number of the left goes on the right", x.door(0, 1, 1, 176, 0), -4);
        DoorOffice y = Checks.withStreet(1);
        y.door(0, 0, 100, 160, 0);
        c.due("all of the right is behind all of the left", y.free(0, 1, 9999), 176);
        c.due("all of the right is behind all of the left", y.free(0, 1, 0), 176);
        c.due("the ring has a first place", y.free(0, 0, 99), 16);
    }

    private static void oneBackOfEach() {
        c.sentence("BACK under a DOOR or CORNER (one of each)");
        DoorOffice x = Checks.withStreet(3);
        Checks.street(x, "oak", 0, 3, 0);
        x.door(0, 0, 10, 0, 0);
        x.door(0, 0, 20, 0, 0);
        x.corner(1, 1, 0, 10, 0, 0);
        c.due("of a door", x.under(2, 0, 0, 0), 2);
        c.due("a second one", x.under(2, 0, 0, 0), -5);
        c.due("of a corner", x.under(2, 1, 0, 0), 3);
        c.due("a second one", x.under(2, 1, 0, 0), -5);
        x.gone(2, 5);
        c.due("another one when the first is gone", x.under(2, 0, 0, 5), 4);
    }

    private static void courtsAndFloorsUpTo99() {
        c.sentence("COURT 1 .. 99 under a BACK. FLOOR 1 .. 99 under a DOOR or CORNER");
        int[] wrong = {0, -1, 100, Integer.MIN_VALUE, Integer.MAX_VALUE};
        DoorOffice x = Checks.withStreet(3);
        x.door(0, 0, 10, 0, 0);
        x.under(2, 0, 0, 0);
        for (int k : wrong) {
            c.due("court " + k, x.under(3, 1, k, 0), -2);
            c.due("floor " + k, x.under(4, 0, k, 0), -2);
            c.due("back " + k, x.under(2, 0, k, 0), k == 0 ? -5 : -2);
        }
        c.due("court 1", x.under(3, 1, 1, 0), 2);
        c.due("court 99", x.under(3, 1, 99, 0), 3);
        c.due("floor 1", x.under(4, 0, 1, 0), 4);
        c.due("floor 99", x.under(4, 0, 99, 0), 5);
        c.due("k", x.about(3, 8), 99);
        c.due("court 99 is read", Checks.call(x, "elm 1 court 99, old", 0), 3);
    }

    private static void addressesOfUnders() {
        c.sentence("SORTS 2 to 4 have the ADDRESSES of that DOOR (or CORNER) over them with EXTRA");
        DoorOffice x = Checks.withStreet(3);
        Checks.street(x, "oak", 0, 3, 0);
        x.door(0, 0, 10, 0, 0);
        x.corner(0, 1, 0, 10, 80, 0);
        x.under(2, 0, 0, 0);
        x.under(3, 1, 9, 0);
        x.under(4, 0, 10, 0);
        String[] extras = {"", " back", " court 9", " floor 10"};
        for (int door = 0; door < 4; door++) {
            x.write(door, 0, 0);
            c.due("by the first place", Checks.out(x), "elm 1" + extras[door] + ", old");
            x.write(door, 1, 0);
            c.due("by the second place", Checks.out(x), "oak 5" + extras[door] + ", old");
            c.due("FRONT", x.about(door, 1), 0);
        }
    }

    private static void lowWithoutADoor() {
        c.sentence("LOW: 0 if there is none");
        for (int rule = 0; rule < 4; rule++) {
            DoorOffice x = Checks.withStreet(rule);
            c.due("the first on the left by rule " + rule, x.free(0, 0, 0), 16);
            c.due("the first on the right by rule " + rule, x.free(0, 1, 0), rule == 1 || rule == 3 ? 16 : 32);
        }
    }

    private static void highWithoutADoor() {
        c.sentence("HIGH: none: 160000");
        for (int rule : new int[] {0, 1, 3}) {
            DoorOffice x = Checks.withStreet(rule);
            c.due("9999+ by rule " + rule, x.door(0, 0, 10, MOST, 0), 0);
            c.due("none is above", x.free(0, 0, 20), -4);
            c.due("there is one below", x.free(0, 0, 5), 16);
            DoorOffice y = Checks.withStreet(rule);
            y.door(0, 0, 10, 9999 * 16 + 8, 0);
            c.due("9999+ is above 9999h", y.free(0, 0, 20), MOST);
            DoorOffice z = Checks.withStreet(rule);
            z.door(0, 0, 10, 9997 * 16, 0);
            c.due("the last digits", z.free(0, 0, 20), (rule == 0 ? 9999 : 9998) * 16);
        }
    }

    private static void betweenLowAndHigh() {
        c.sentence("Candidates: wholes above LOW and below HIGH");
        DoorOffice x = Checks.withStreet(3);
        x.door(0, 0, 10, 160, 0);
        x.door(0, 0, 20, 164, 0);
        c.due("LOW itself", x.door(0, 0, 15, 160, 0), -4);
        c.due("below LOW", x.door(0, 0, 15, 153, 0), -4);
        c.due("HIGH itself", x.door(0, 0, 15, 164, 0), -4);
        c.due("above HIGH", x.door(0, 0, 15, 165, 0), -4);
        c.due("right below HIGH", x.door(0, 0, 15, 163, 0), 2);
        c.due("right above LOW", x.door(0, 0, 12, 161, 0), 3);
        c.due("the one that is left", x.free(0, 0, 13), 162);
        x.door(0, 0, 13, 0, 0);
        c.due("none is left", x.free(0, 0, 14), -4);
        c.due("of the nearest one behind, not of the least", x.free(0, 0, 11), -4);
    }

    private static void unknownOnesPassedOver() {
        c.sentence("LOW .. HIGH .., UNKNOWN ones passed over");
        DoorOffice x = Checks.withStreet(3);
        for (int at = 10; at <= 60; at += 10) {
            x.door(0, 0, at, 0, 0);
        }
        x.renumber(0, 3, 0);
        c.due("all unknown: LOW 0, HIGH none", x.free(0, 0, 35), 16);
        c.due("all unknown", x.door(0, 0, 35, 800, 0), 6);
        c.due("a known one behind two unknown ones", x.door(0, 0, 55, 800, 0), -4);
        c.due("a known one ahead of two unknown ones", x.door(0, 0, 15, 801, 0), -4);
        c.due("above it", x.door(0, 0, 55, 801, 0), 7);
        c.due("below it", x.door(0, 0, 15, 799 - 15, 0), 8);
        c.due("an UNKNOWN one stands in the way of its place", x.door(0, 0, 20, 0, 0), -5);
    }

    private static void onlyDoorsThatStand() {
        c.sentence("the nearest door of the street that stands");
        DoorOffice x = Checks.withStreet(3);
        x.door(0, 0, 10, 160, 0);
        x.door(0, 0, 30, 320, 0);
        x.gone(0, 5);
        c.due("LOW is none any more", x.free(0, 0, 20), 16);
        x.gone(1, 5);
        c.due("HIGH is none any more", x.door(0, 0, 20, MOST, 5), 2);
        x.undo();
        x.undo();
        c.due("taken back: HIGH is there again", x.door(0, 0, 20, MOST, 5), -4);
        Checks.street(x, "oak", 0, 3, 0);
        x.door(1, 0, 10, 480, 0);
        c.due("doors of another street do not matter", x.free(0, 0, 20), 16);
        x.corner(2, 0, 0, 15, 0, 5);
        c.due("its corners do", x.free(0, 0, 20), 32);
    }

    private static void numbersThatNoDoorHas() {
        c.sentence("that no door that stands in the street has");
        DoorOffice x = Checks.withStreet(3);
        x.door(0, 0, 10, 16, 0);
        c.due("1 is had on the other side", x.free(0, 1, 10), 32);
        c.due("told, too", x.door(0, 1, 10, 16, 0), -4);
        c.due("1a is not", x.door(0, 1, 10, 17, 0), 1);
        x.gone(0, 3);
        c.due("it is free when that door is gone", x.free(0, 1, 5), 16);
        x.door(0, 0, 90, 16, 3);
        c.due("2 then 1b", x.free(0, 1, 20), 32);
        c.due("below 1a: 1 is had", x.free(0, 1, 5), -4);
    }

    private static void digitsUpTo9999() {
        c.sentence("with digits 1 .. 9999");
        int[] wrong = {1, 15, -1, -16, 26, 31, 160000, MOST + 1, 159999, Integer.MIN_VALUE, Integer.MAX_VALUE};
        DoorOffice x = Checks.withStreet(3);
        Checks.street(x, "oak", 0, 3, 0);
        x.door(0, 0, 10, 0, 0);
        for (int whole : wrong) {
            c.due("door " + whole, x.door(0, 0, 20, whole, 0), -2);
            c.due("corner " + whole, x.corner(0, 1, 0, 20, whole, 0), -2);
        }
        DoorOffice y = Checks.withStreet(3);
        c.due("1", y.door(0, 0, 10, 16, 0), 0);
        c.due("1+", y.door(0, 0, 20, 25, 0), 1);
        c.due("9999+", y.door(0, 0, 40, MOST, 0), 2);
        c.due("9999", y.door(0, 0, 30, 159984, 0), 3);
    }

    private static void oddAndEvenDigits() {
        c.sentence("by SIDES only of odd or even digits as the side has");
        DoorOffice x = Checks.withStreet(0);
        c.due("2 on the left", x.door(0, 0, 10, 32, 0), -4);
        c.due("1 on the right", x.door(0, 1, 10, 16, 0), -4);
        c.due("2a on the left", x.door(0, 0, 10, 33, 0), -4);
        c.due("1+ on the right", x.door(0, 1, 10, 25, 0), -4);
        c.due("1a on the left", x.door(0, 0, 10, 17, 0), 0);
        c.due("2+ on the right", x.door(0, 1, 10, 41, 0), 1);
        c.due("3 behind 1a", x.free(0, 0, 20), 48);
        c.due("4 behind 2+", x.free(0, 1, 20), 64);
        c.due("1 ahead of 1a", x.free(0, 0, 5), 16);
        c.due("2 ahead of 2+", x.free(0, 1, 5), 32);
        c.due("9998+ is the last on the right", x.door(0, 1, 50, 9998 * 16 + 9, 0), 2);
        c.due("none is above", x.free(0, 1, 60), -4);
    }

    private static void digitsByPaces() {
        c.sentence("by PACES only of digits 2 * (paces / 10) + 1 on side 0, and one more on side 1");
        int[] at = {0, 9, 10, 19, 20, 9989, 9990, 9999};
        int[] digits = {1, 1, 3, 3, 5, 1997, 1999, 1999};
        for (int i = 0; i < at.length; i++) {
            DoorOffice x = Checks.withStreet(2);
            c.due("left at " + at[i], x.free(0, 0, at[i]), 16 * digits[i]);
            c.due("right at " + at[i], x.free(0, 1, at[i]), 16 * digits[i] + 16);
            c.due("one less, told", x.door(0, 0, at[i], 16 * digits[i] - 16, 0), digits[i] == 1 ? 0 : -4);
            DoorOffice y = Checks.withStreet(2);
            c.due("one more, told", y.door(0, 0, at[i], 16 * digits[i] + 16, 0), -4);
            c.due("it with a half, told", y.door(0, 0, at[i], 16 * digits[i] + 9, 0), 0);
        }
    }

    private static void leastLetterThenLeast() {
        c.sentence("The one with the least letter (none, a .. h, +), of these the least");
        DoorOffice x = Checks.withStreet(3);
        x.door(0, 0, 10, 16, 0);
        x.door(0, 0, 90, 64, 0);
        c.due("2 and 3 are there: 2", x.free(0, 0, 50), 32);
        x.door(0, 1, 10, 32, 0);
        c.due("3 is there", x.free(0, 0, 50), 48);
        x.door(0, 1, 20, 48, 0);
        c.due("1a, 2a, 3a are there: 1a", x.free(0, 0, 50), 17);
        DoorOffice z = Checks.withStreet(3);
        z.door(0, 0, 10, 16, 0);
        z.door(0, 0, 90, 32, 0);
        for (int letter = 1; letter <= 9; letter++) {
            c.due("between 1 and 2, letter " + letter, z.free(0, 0, 20 + letter), 16 + letter);
            z.door(0, 0, 20 + letter, 0, 0);
        }
        c.due("no letter behind +", z.free(0, 0, 50), -4);
        DoorOffice y = Checks.withStreet(3);
        y.door(0, 0, 10, 16 + 7, 0);
        y.door(0, 0, 90, 32 + 2, 0);
        c.due("2 ahead of 1h", y.free(0, 0, 50), 32);
        y.door(0, 1, 10, 32, 0);
        c.due("2a ahead of 1h", y.free(0, 0, 50), 33);
        y.door(0, 1, 20, 33, 0);
        c.due("1h", y.free(0, 0, 50), 24);
        y.door(0, 1, 5, 24, 0);
        c.due("1+", y.free(0, 0, 50), 25);
        y.door(0, 1, 7, 25, 0);
        c.due("none", y.free(0, 0, 50), -4);
    }

    private static void noneLeftUntilRenumbered() {
        c.sentence("If there is none: there is NONE LEFT (renumber)");
        DoorOffice x = Checks.withStreet(0);
        x.door(0, 0, 10, 0, 0);
        c.due("free", x.free(0, 0, 5), -4);
        c.due("door", x.door(0, 0, 5, 0, 0), -4);
        c.due("renumbered", x.renumber(0, 2, 0), 1);
        c.due("there is one then", x.free(0, 0, 5), 16);
        c.due("door", x.door(0, 0, 5, 0, 0), 1);
    }

    private static void dueWholes(String what, DoorOffice x, int... wholes) {
        for (int door = 0; door < wholes.length; door++) {
            c.due(what + ", door " + door, now(x, door), wholes[door]);
        }
    }

    /** Three doors left and two right; by GIVEN, with odd letters, so that each rule gives other numbers. */
    private static DoorOffice five() {
        DoorOffice x = Checks.withStreet(3);
        int[][] places = {{0, 0}, {0, 9}, {0, 9999}, {1, 0}, {1, 9999}};
        for (int i = 0; i < places.length; i++) {
            x.door(0, places[i][0], places[i][1], 1616 + i, 0);
        }
        return x;
    }

    private static void renumberedBySides() {
        c.sentence("by SIDES: 1, 3, 5, .. along side 0, 2, 4, 6, .. along side 1");
        DoorOffice x = five();
        c.due("all have another number", x.renumber(0, 0, 0), 5);
        dueWholes("by sides", x, 16, 48, 80, 32, 64);
        DoorOffice y = Checks.withStreet(3);
        c.due("no doors", y.renumber(0, 0, 0), 0);
        c.due("the rule is there", y.count(100), 0);
        y.door(0, 1, 10, 0, 0);
        y.renumber(0, 0, 0);
        dueWholes("one side alone", y, 32);
    }

    private static void renumberedRound() {
        c.sentence("by ROUND 1, 2, 3, .. along the RING");
        DoorOffice x = five();
        c.due("all have another number", x.renumber(0, 1, 0), 5);
        dueWholes("round", x, 16, 32, 48, 80, 64);
        DoorOffice y = Checks.withStreet(3);
        c.due("no doors", y.renumber(0, 1, 0), 0);
        y.door(0, 1, 10, 160, 0);
        y.renumber(0, 1, 0);
        dueWholes("one side alone", y, 16);
    }

    private static void renumberedByPaces() {
        c.sentence("by PACES: the digits as above, none, a .. h, + for those with like digits, by paces");
        DoorOffice x = five();
        c.due("all have another number", x.renumber(0, 2, 0), 5);
        dueWholes("by paces", x, 16, 17, 1999 * 16, 32, 2000 * 16);
        DoorOffice y = Checks.withStreet(3);
        for (int at = 19; at >= 10; at--) {
            y.door(0, 0, at, 0, 0);
            y.renumber(0, 3, 0);
        }
        c.due("ten", y.renumber(0, 2, 0), 10);
        dueWholes("ten of like digits", y, 57, 56, 55, 54, 53, 52, 51, 50, 49, 48);
        c.due("the next digits are free", y.free(0, 0, 20), 80);
        for (int side = 0; side < 2; side++) {
            DoorOffice z = Checks.withStreet(3);
            for (int at = 9989; at <= 9999; at++) {
                z.door(0, side, at, 0, 0);
            }
            c.due("eleven", z.renumber(0, 2, 0), 11);
            c.due("the one ahead", now(z, 0), 16 * (1997 + side));
            for (int i = 1; i <= 10; i++) {
                c.due("of the last ten paces", now(z, i), 16 * (1999 + side) + i - 1);
            }
        }
    }

    private static void renumberedAsGiven() {
        c.sentence("by GIVEN: the k-th door of a side gets the k-th whole of the ROW given for this side");
        DoorOffice x = five();
        row(x, 0, 16, 25, 0xffe9);
        row(x, 1, 17, 18);
        c.due("all have another number", x.renumber(0, 3, 0), 5);
        dueWholes("given", x, 16, 25, 0xffe9, 17, 18);
        row(x, 0, 20, 21, 22);
        dueWholes("a row alone changes nothing", x, 16, 25, 0xffe9, 17, 18);
        c.due("until it is renumbered", x.renumber(0, 3, 0), 3);
        dueWholes("given anew", x, 20, 21, 22, 17, 18);
        DoorOffice y = Checks.withStreet(3);
        int[] wholes = new int[100];
        for (int i = 0; i < 100; i++) {
            y.door(0, 1, 99 * i, 0, 0);
            wholes[i] = 800 + 16 * i;
        }
        Checks.tell(y, Checks.wholes(wholes)).row(0, 1);
        c.due("as many as there can be doors", y.renumber(0, 3, 0), 100);
        dueWholes("a long row", y, wholes);
    }

    private static void givenUnknown() {
        c.sentence("it is UNKNOWN, if the ROW ends ahead of that, or is burnt, or there never was one");
        DoorOffice x = five();
        row(x, 0, 16, 32);
        c.due("the third and the right", x.renumber(0, 3, 0), 5);
        dueWholes("the row ends, the other never was", x, 16, 32, 0, 0, 0);
        row(x, 1, 48, 64, 80);
        c.due("the right", x.renumber(0, 3, 0), 2);
        dueWholes("longer than the side", x, 16, 32, 0, 48, 64);
        x.tear(0, 0, NONE);
        c.due("burnt", x.renumber(0, 3, 0), 2);
        dueWholes("burnt", x, 0, 0, 0, 48, 64);
        Checks.tell(x, "").row(0, 1);
        c.due("empty", x.renumber(0, 3, 0), 2);
        dueWholes("empty", x, 0, 0, 0, 0, 0);
    }

    private static void dueRefusedRows(String what, int[] left, int[] right) {
        DoorOffice x = five();
        row(x, 0, left);
        row(x, 1, right);
        c.due(what, x.renumber(0, 3, 0), -4);
        dueWholes(what, x, 1616, 1617, 1618, 1619, 1620);
        c.due(what + ", no paper", x.count(3), 6);
    }

    private static void givenNotRising() {
        c.sentence("if the wholes that would be got do not rise along a side: NONE LEFT");
        dueRefusedRows("falls at once", new int[] {32, 16, 48}, new int[] {64, 80});
        dueRefusedRows("falls behind", new int[] {16, 48, 32}, new int[] {64, 80});
        dueRefusedRows("falls by one", new int[] {16, 48, 47 - 15}, new int[] {64, 80});
        dueRefusedRows("falls on the right", new int[] {16, 32, 48}, new int[] {80, 64});
        dueRefusedRows("falls on the right by one letter", new int[] {16, 32, 48}, new int[] {65, 64});
        DoorOffice x = five();
        row(x, 0, 160, 161, 176);
        row(x, 1, 16, 17);
        c.due("the sides do not matter to one another", x.renumber(0, 3, 0), 5);
    }

    private static void givenTwoTheSame() {
        c.sentence("or two are the same: NONE LEFT");
        dueRefusedRows("side by side", new int[] {16, 16, 48}, new int[] {64, 80});
        dueRefusedRows("on two sides, first", new int[] {16, 32, 48}, new int[] {16, 80});
        dueRefusedRows("on two sides, last", new int[] {16, 32, 48}, new int[] {17, 48});
        DoorOffice x = five();
        row(x, 0, 16);
        c.due("two UNKNOWN ones are not", x.renumber(0, 3, 0), 5);
    }

    private static void givenOutOfBounds() {
        c.sentence("or one is not 16 .. 159993 or has more than 9 for a letter: NONE LEFT");
        int[] wrong = {0, 1, 9, 15, 26, 27, 31, 0x1fa, 0xfffa, 0xffff};
        for (int whole : wrong) {
            boolean isHigh = whole >= 0x1fa;
            dueRefusedRows("left " + whole, isHigh ? new int[] {16, 32, whole} : new int[] {whole, 32, 48}, new int[] {64, 80});
            dueRefusedRows("right " + whole, new int[] {64, 80, 96}, isHigh ? new int[] {16, whole} : new int[] {whole, 48});
        }
        DoorOffice x = five();
        row(x, 0, 16, 25, 0xfff9);
        row(x, 1, 32, 41);
        c.due("16, letter 9 and the most that two bytes hold", x.renumber(0, 3, 0), 5);
        dueWholes("given", x, 16, 25, 0xfff9, 32, 41);
    }

    private static void givenOnlyAsMuchAsIsGot() {
        c.sentence("if the wholes that would be got ..: what is not got does not matter");
        DoorOffice x = five();
        row(x, 0, 16, 32, 48, 1, 16, 65535);
        row(x, 1, 64, 80, 16);
        c.due("wrong ones behind the last door", x.renumber(0, 3, 0), 5);
        dueWholes("given", x, 16, 32, 48, 64, 80);
        row(x, 0, 160, 15, 16);
        x.tear(0, 0, 1);
        c.due("wrong ones behind the tear", x.renumber(0, 3, 0), 3);
        dueWholes("given", x, 160, 0, 0, 64, 80);
        x.renumber(0, 0, 0);
        row(x, 0, 1, 1, 1);
        c.due("by another rule a wrong row does not matter", x.renumber(0, 1, 0), 3);
    }

    private static void keepsItsSpan() {
        c.sentence("(A door whose NUMBER stays what it was keeps its SPAN.)");
        DoorOffice x = five();
        row(x, 0, 1616, 1617, 1700);
        row(x, 1, 1619);
        c.due("two have another number", x.renumber(0, 3, 20), 2);
        c.due("spans", x.count(4), 7);
        for (int door = 0; door < 5; door++) {
            boolean isKept = door != 2 && door != 4;
            c.due("door " + door + " has it from", x.number(door, 0, LAST, 1), isKept ? 0 : 20);
            c.due("door " + door + " had it to", x.number(door, 0, 19, 2), isKept ? NONE : 20);
        }
        c.due("UNKNOWN stays UNKNOWN", x.renumber(0, 3, 30), 0);
        c.due("it keeps its span", x.number(4, 0, LAST, 1), 20);
        c.due("no spans more", x.count(4), 7);
        c.due("but a paper more", x.count(3), 8);
    }
}

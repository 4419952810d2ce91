/** Terms IV and promises 22 to 34: each sentence that names a boundary case has a test of its own. */
public final class BoundsAskedTest {
    private static final int NONE = DoorOffice.NONE;
    private static final int LAST = 109574;
    private static final int LEAST_INT = Integer.MIN_VALUE;
    private static final int MOST_INT = Integer.MAX_VALUE;
    private static final Checks c = new Checks();

    public static void main(String[] args) {
        aboutNone();
        aboutEverMadeACorner();
        standsOnDays();
        numberUnknownAndNone();
        numberForOthers();
        writeNone();
        writeOutStays();
        townsJoinedHaveNoStreets();
        sureDoors();
        sureWithExtra();
        likelyOnlyWithoutASureOne();
        likelySides();
        likelyBetweenKnownOnes();
        likelyAtTheEnds();
        likelyThen();
        likelyRuleAndOrderNow();
        likelyByTheRuleOfItsStreet();
        likelyWithExtra();
        likelyByFewerUnknown();
        likelyBySideAndPaces();
        likelyAll100();
        meansRefused();
        faultOfTheLatest();
        foundNone();
        callSure();
        callOld();
        callNone();
        callAsKnown();
        endedAheadOfAny();
        endedOfTheLatestOld();
        twiceOfStreets();
        twiceOfFiftyPairs();
        twiceOfTowns();
        twiceRefused();
        pairOfTheLatest();
        pairNone();
        freeRefused();
        nearOfSeveral();
        nearNone();
        c.finish();
    }

    /** Elm and oak in old; 0 in elm a corner of oak from 5 on, 1 in oak; back 2, court 3 and floor 4 under 0. */
    private static DoorOffice office() {
        DoorOffice x = Checks.withStreet(3);
        Checks.street(x, "oak", 0, 3, 0);
        x.door(0, 0, 10, 0, 0);
        x.door(1, 0, 10, 0, 0);
        x.under(2, 0, 0, 0);
        x.under(3, 2, 7, 0);
        x.under(4, 0, 9, 0);
        x.corner(0, 1, 1, 9999, 800, 5);
        return x;
    }

    private static void aboutNone() {
        c.sentence("22: NONE where it has none, or there is none such");
        DoorOffice x = office();
        int[][] due = {
            {1, 0, 0, 0, 10, 1, 1, 9999, 0, NONE},
            {0, 1, 1, 0, 10, NONE, NONE, NONE, 0, NONE},
            {2, 0, NONE, NONE, NONE, NONE, NONE, NONE, 0, 0},
            {3, 0, NONE, NONE, NONE, NONE, NONE, NONE, 7, 2},
            {4, 0, NONE, NONE, NONE, NONE, NONE, NONE, 9, 0}};
        for (int door = 0; door < due.length; door++) {
            for (int what = 0; what < 10; what++) {
                c.due("about(" + door + ", " + what + ")", x.about(door, what), due[door][what]);
            }
            for (int what : new int[] {-1, 10, LEAST_INT, MOST_INT}) {
                c.due("about(" + door + ", " + what + ")", x.about(door, what), NONE);
            }
        }
        for (int door : new int[] {-1, 5, 99, 100, LEAST_INT, MOST_INT}) {
            for (int what = 0; what < 10; what++) {
                c.due("about(" + door + ", " + what + ")", x.about(door, what), NONE);
            }
        }
    }

    private static void aboutEverMadeACorner() {
        c.sentence("22: SORT (1 of one that was ever made a CORNER)");
        DoorOffice x = Checks.withStreet(3);
        Checks.street(x, "oak", 0, 3, 0);
        x.door(0, 0, 10, 0, 0);
        x.day(9);
        c.due("not yet", x.about(0, 0), 0);
        x.corner(0, 1, 0, 10, 0, LAST);
        x.as(8);
        c.due("from the last day on, and not as known", x.about(0, 0), 1);
        c.due("its second place, too", x.about(0, 5), 1);
        x.gone(0, LAST);
        c.due("gone", x.about(0, 0), 1);
        x.undo();
        x.undo();
        c.due("the paper is taken back", x.about(0, 0), 0);
        for (int what = 5; what <= 7; what++) {
            c.due("its second place is taken back, " + what, x.about(0, what), NONE);
        }
    }

    private static void standsOnDays() {
        c.sentence("23: Whether a door stands on a day, as known");
        DoorOffice x = office();
        x.day(20);
        x.gone(0, 30);
        for (int door : new int[] {0, 2, 3, 4}) {
            c.due("door " + door + " on the day ahead", x.stands(door, 29), true);
            c.due("door " + door + " on the day", x.stands(door, 30), false);
        }
        x.as(19);
        c.due("as known on the day ahead of the paper", x.stands(4, 30), true);
        x.as(20);
        c.due("as known on the day of the paper", x.stands(4, 30), false);
        for (int none : new int[] {-1, 5, LEAST_INT, MOST_INT}) {
            c.due("door " + none, x.stands(none, 0), false);
        }
        for (int none : new int[] {-1, LAST + 1, LEAST_INT, MOST_INT}) {
            c.due("day " + none, x.stands(1, none), false);
        }
        c.due("the last day", x.stands(1, LAST), true);
    }

    private static void numberUnknownAndNone() {
        c.sentence("24: its NUMBER as a whole (0 UNKNOWN, NONE: none), the day from which .., .. no more (NONE: open)");
        DoorOffice x = office();
        x.renumber(1, 3, 8);
        x.gone(0, 12);
        int[][] due = {{4, NONE, NONE, NONE}, {5, 800, 5, 8}, {7, 800, 5, 8}, {8, 0, 8, 12}, {11, 0, 8, 12}, {12, NONE, NONE, NONE}};
        for (int[] d : due) {
            for (int door : new int[] {0, 2, 3, 4}) {
                for (int what = 0; what < 3; what++) {
                    c.due("door " + door + ", day " + d[0] + ", what " + what, x.number(door, 1, d[0], what), d[what + 1]);
                }
            }
        }
        c.due("the first place: open to the day it is gone", x.number(0, 0, 0, 2), 12);
        c.due("open", x.number(1, 0, LAST, 2), NONE);
        c.due("from", x.number(1, 0, LAST, 1), 8);
        c.due("UNKNOWN", x.number(1, 0, LAST, 0), 0);
    }

    private static void numberForOthers() {
        c.sentence("24: NONE for others");
        DoorOffice x = office();
        for (int what : new int[] {-1, 3, LEAST_INT, MOST_INT}) {
            c.due("what " + what, x.number(0, 0, 5, what), NONE);
        }
        for (int place : new int[] {-1, 2, LEAST_INT, MOST_INT}) {
            c.due("place " + place, x.number(0, place, 5, 0), NONE);
        }
        for (int door : new int[] {-1, 5, LEAST_INT, MOST_INT}) {
            c.due("door " + door, x.number(door, 0, 5, 0), NONE);
        }
        for (int day : new int[] {-1, LAST + 1, LEAST_INT, MOST_INT}) {
            c.due("day " + day, x.number(0, 0, day, 0), NONE);
        }
        c.due("a place that it does not have", x.number(1, 1, 5, 0), NONE);
        c.due("place -1 is not the second place of the door ahead", x.number(1, -1, 5, 0), NONE);
        c.due("place 2 is not the first place of the next door", x.number(0, 2, 5, 0), NONE);
    }

    private static void writeNone() {
        c.sentence("25: NONE if it has none, or an UNKNOWN one, or does not stand");
        DoorOffice x = office();
        c.due("the second place, the day ahead", x.write(0, 1, 4), NONE);
        c.due("the second place", x.write(0, 1, 5), 11);
        c.due("of what is under it", x.write(4, 1, 5), 19);
        c.due("no second place", x.write(1, 1, 5), NONE);
        x.renumber(1, 3, 8);
        c.due("the day ahead", x.write(0, 1, 7), 11);
        c.due("UNKNOWN", x.write(0, 1, 8), NONE);
        c.due("UNKNOWN, under it", x.write(2, 1, 8), NONE);
        c.due("its first place is known", x.write(2, 0, 8), 15);
        x.gone(3, 8);
        c.due("a court, the day ahead", x.write(3, 0, 7), 18);
        c.due("a court that is gone, though its FRONT stands", x.write(3, 0, 8), NONE);
        x.under(4, 0, 1, 9);
        c.due("a floor that does not stand yet", x.write(5, 0, 8), NONE);
        c.due("a floor that does", x.write(5, 0, 9), 18);
        x.gone(0, 20);
        c.due("gone", x.write(0, 0, 20), NONE);
        c.due("gone with it", x.write(5, 0, 20), NONE);
        for (int none : new int[] {-1, 6, LEAST_INT, MOST_INT}) {
            c.due("door " + none, x.write(none, 0, 9), NONE);
        }
        for (int none : new int[] {-1, 2, LEAST_INT, MOST_INT}) {
            c.due("place " + none, x.write(0, none, 9), NONE);
            c.due("place " + none, x.write(0, none, 5), NONE);
            c.due("place " + none, x.write(1, none, 5), NONE);
        }
    }

    private static void writeOutStays() {
        c.sentence("25: OUT is a door's ADDRESS; NONE, and OUT stays");
        DoorOffice x = office();
        c.due("ahead of any", x.write(9, 0, 0), NONE);
        c.due("OUT is empty", x.out(0), NONE);
        x.write(0, 0, 0);
        x.write(1, 1, 0);
        x.write(0, 1, 4);
        x.write(0, 0, -1);
        x.write(-1, 0, 0);
        c.due("OUT stays", Checks.out(x), "elm 1, old");
        x.write(0, 1, 5);
        c.due("another one", Checks.out(x), "oak 50, old");
        x.write(0, 0, 5);
        c.due("a shorter one leaves nothing of it", Checks.out(x), "elm 1, old");
    }

    private static void townsJoinedHaveNoStreets() {
        c.sentence("IV: the town with that NAME (a town has none from the day on from which it is joined to another one)");
        DoorOffice x = office();
        Checks.town(x, "new");
        x.day(3);
        x.join(1, 0, 30);
        c.due("the day ahead", Checks.means(x, "elm 1, old", 29), 1);
        c.due("the day", Checks.means(x, "elm 1, old", 30), 0);
        c.due("the last day", Checks.means(x, "elm 1, old", LAST), 0);
        c.due("the other town, the day ahead", Checks.means(x, "elm 1, new", 29), 0);
        c.due("the other town, the day", Checks.means(x, "elm 1, new", 30), 1);
        x.as(2);
        c.due("as known ahead of that", Checks.means(x, "elm 1, old", 30), 1);
        c.due("no town of that name", Checks.means(x, "elm 1, far", 0), 0);
        c.due("a town's name is no street's", Checks.means(x, "old 1, elm", 0), 0);
    }

    private static void sureDoors() {
        c.sentence("IV: the door there that stands then and has that NUMBER there and then: SURE");
        DoorOffice x = office();
        c.due("by its first place", Checks.means(x, "elm 1, old", 0), 1);
        c.due("by its first place", Checks.found(x), "0!");
        c.due("by its second place, the day ahead", Checks.means(x, "oak 50, old", 4), 0);
        Checks.means(x, "oak 50, old", 5);
        c.due("by its second place", Checks.found(x), "0!");
        c.due("that number in the other street", Checks.means(x, "elm 50, old", 5), 0);
        x.renumber(1, 0, 9);
        c.due("the day ahead of another number", Checks.means(x, "oak 50, old", 8), 1);
        c.due("the day of another number", Checks.means(x, "oak 50, old", 9), 0);
        x.gone(0, 12);
        c.due("the day ahead of gone", Checks.means(x, "oak 2, old", 11), 1);
        c.due("gone", Checks.means(x, "oak 2, old", 12), 0);
    }

    private static void sureWithExtra() {
        c.sentence("IV: with EXTRA the one under it that stands then and is so told: SURE");
        DoorOffice x = office();
        Checks.means(x, "elm 1 back, old", 0);
        c.due("back", Checks.found(x), "2!");
        Checks.means(x, "elm 1 court 7, old", 0);
        c.due("court", Checks.found(x), "3!");
        Checks.means(x, "oak 50 floor 9, old", 5);
        c.due("floor, by the second place", Checks.found(x), "4!");
        c.due("a court is no floor", Checks.means(x, "elm 1 floor 7, old", 0), 0);
        c.due("a floor is no court", Checks.means(x, "elm 1 court 9, old", 0), 0);
        c.due("another number", Checks.means(x, "elm 1 court 8, old", 0), 0);
        c.due("of another door", Checks.means(x, "oak 1 back, old", 0), 0);
        x.gone(2, 8);
        c.due("the day ahead", Checks.means(x, "elm 1 court 7, old", 7), 1);
        c.due("gone", Checks.means(x, "elm 1 court 7, old", 8), 0);
        c.due("its FRONT stands", Checks.means(x, "elm 1, old", 8), 1);
    }

    /** By GIVEN: left 10 (2), then 20 and 30 UNKNOWN, 40 (6); right 10 UNKNOWN; from day 1 on; 2 has a back. */
    private static DoorOffice burnt() {
        DoorOffice x = Checks.withStreet(3);
        x.door(0, 0, 20, 0, 0);
        x.door(0, 0, 30, 0, 0);
        x.door(0, 1, 10, 0, 0);
        x.renumber(0, 3, 1);
        x.door(0, 0, 10, 32, 1);
        x.door(0, 0, 40, 96, 1);
        x.under(2, 1, 0, 1);
        return x;
    }

    private static void likelyOnlyWithoutASureOne() {
        c.sentence("IV: If no door has that NUMBER there");
        DoorOffice x = burnt();
        Checks.means(x, "elm 4, old", 1);
        c.due("none has 4", Checks.found(x), "2 0 1");
        Checks.means(x, "elm 2, old", 1);
        c.due("one has 2", Checks.found(x), "3!");
        c.due("one has 2, but no back", Checks.means(x, "elm 2 back, old", 1), 0);
        Checks.means(x, "elm 4, old", 0);
        c.due("ahead of the day they have numbers", x.count(9), 0);
    }

    private static void likelySides() {
        c.sentence("IV: of a side that could have it by the RULE (SIDES: odd or even)");
        for (int rule = 0; rule < 4; rule++) {
            DoorOffice x = burnt();
            x.renumber(0, rule, 9);
            Checks.means(x, "elm 3, old", 1);
            c.due("odd digits, rule " + rule, Checks.found(x), rule == 0 ? "0 1" : rule == 1 ? "0 1" : "2 0 1");
            Checks.means(x, "elm 4c, old", 1);
            c.due("even digits, rule " + rule, Checks.found(x), rule == 0 ? "2" : rule == 1 ? "0 1" : "2 0 1");
        }
        DoorOffice x = Checks.withStreet(3);
        x.door(0, 0, 10, 0, 0);
        x.door(0, 1, 10, 0, 0);
        x.renumber(0, 3, 0);
        x.renumber(0, 0, 1);
        for (int digits : new int[] {1, 2, 9, 10, 15, 16, 99, 100, 1001, 1002, 9998, 9999}) {
            for (String letter : new String[] {"", "a", "+"}) {
                Checks.means(x, "elm " + digits + letter + ", old", 0);
                c.due("by SIDES: " + digits + letter, Checks.found(x), digits % 2 == 1 ? "0" : "1");
            }
        }
    }

    private static void likelyBetweenKnownOnes() {
        c.sentence("IV: for which the NUMBER lies between the known ones then ahead and behind in ORDER");
        DoorOffice x = burnt();
        String[] numbers = {"1", "1+", "2a", "3", "5+", "6a", "7", "9999+"};
        String[] due = {"2", "2", "2 0 1", "2 0 1", "2 0 1", "2", "2", "2"};
        for (int i = 0; i < numbers.length; i++) {
            Checks.means(x, "elm " + numbers[i] + ", old", 1);
            c.due("elm " + numbers[i], Checks.found(x), due[i]);
        }
    }

    private static void likelyAtTheEnds() {
        c.sentence("IV: between the known ones then ahead and behind: none is there (LOW 0, HIGH none)");
        DoorOffice x = Checks.withStreet(3);
        x.door(0, 0, 20, 0, 0);
        x.renumber(0, 3, 0);
        for (String number : new String[] {"1", "9999+"}) {
            Checks.means(x, "elm " + number + ", old", 0);
            c.due("alone: elm " + number, Checks.found(x), "0");
        }
        x.door(0, 0, 30, 80, 0);
        c.due("ahead of the first known one", Checks.means(x, "elm 4+, old", 0), 1);
        c.due("not behind it", Checks.means(x, "elm 5a, old", 0), 0);
        x.gone(1, 5);
        x.door(0, 0, 10, 80, 5);
        c.due("behind the last known one", Checks.means(x, "elm 5a, old", 5), 1);
        c.due("not ahead of it", Checks.means(x, "elm 4+, old", 5), 0);
    }

    private static void likelyThen() {
        c.sentence("IV: (of doors that have NUMBERS there then)");
        DoorOffice x = burnt();
        x.day(5);
        x.gone(4, 10);
        Checks.means(x, "elm 7, old", 9);
        c.due("6 is ahead", Checks.found(x), "2");
        Checks.means(x, "elm 7, old", 10);
        c.due("6 is gone", Checks.found(x), "2 0 1");
        x.as(4);
        Checks.means(x, "elm 7, old", 10);
        c.due("as known ahead of that", Checks.found(x), "2");
        x.as(NONE);
        x.gone(0, 11);
        Checks.means(x, "elm 7, old", 11);
        c.due("an UNKNOWN one is gone", Checks.found(x), "1 2");
    }

    private static void likelyRuleAndOrderNow() {
        c.sentence("IV: RULE and ORDER as the street has them now");
        DoorOffice x = burnt();
        x.day(50);
        x.renumber(0, 0, LAST);
        Checks.means(x, "elm 3, old", 1);
        c.due("by SIDES from the last day on", Checks.found(x), "0 1");
        x.as(10);
        Checks.means(x, "elm 3, old", 1);
        c.due("though it is not known then", Checks.found(x), "0 1");
        x.as(NONE);
        x.undo();
        Checks.means(x, "elm 3, old", 1);
        c.due("taken back", Checks.found(x), "2 0 1");
        x.renumber(0, 1, LAST);
        Checks.means(x, "elm 7, old", 1);
        c.due("by ROUND: the right is behind 6", Checks.found(x), "2");
        Checks.means(x, "elm 5, old", 1);
        c.due("by ROUND: the right is not ahead of 6", Checks.found(x), "0 1");
    }

    private static void likelyByTheRuleOfItsStreet() {
        c.sentence("IV: RULE and ORDER as the street has them now: that street");
        DoorOffice x = Checks.withStreet(1);
        Checks.street(x, "oak", 0, 3, 0);
        x.door(1, 0, 10, 0, 0);
        x.door(1, 1, 10, 0, 0);
        x.renumber(1, 3, 0);
        x.door(1, 0, 20, 80, 0);
        Checks.means(x, "oak 7, old", 0);
        c.due("by sides: the right is not bound", Checks.found(x), "1");
        Checks.means(x, "oak 4, old", 0);
        c.due("by sides", Checks.found(x), "0 1");
        x.renumber(0, 0, 0);
        Checks.means(x, "oak 4, old", 0);
        c.due("the rule of another street does not matter", Checks.found(x), "0 1");
    }

    private static void likelyWithExtra() {
        c.sentence("IV: of each the one under it, with EXTRA, if it has one: LIKELY");
        DoorOffice x = burnt();
        Checks.means(x, "elm 3 back, old", 1);
        c.due("one has a back", Checks.found(x), "5");
        c.due("none has a floor", Checks.means(x, "elm 3 floor 1, old", 1), 0);
        x.under(4, 0, 1, 2);
        x.under(4, 2, 1, 2);
        Checks.means(x, "elm 3 floor 1, old", 2);
        c.due("two have a floor", Checks.found(x), "7 6");
        c.due("they are not SURE", x.found(0, 1), 0);
        c.due("the day ahead", Checks.means(x, "elm 3 floor 1, old", 1), 0);
    }

    private static void likelyByFewerUnknown() {
        c.sentence("IV: those first in whose gap (between two known ones) fewer are UNKNOWN");
        DoorOffice x = burnt();
        x.door(0, 1, 20, 0, 1);
        x.renumber(0, 3, 2);
        Checks.means(x, "elm 3, old", 2);
        c.due("two right, four left", Checks.found(x), "2 6 3 0 1 4");
        x.gone(3, 3);
        x.gone(0, 3);
        Checks.means(x, "elm 3, old", 3);
        c.due("two each: the left first", Checks.found(x), "1 4 2 6");
        x.gone(4, 4);
        Checks.means(x, "elm 3, old", 4);
        c.due("one left", Checks.found(x), "1 2 6");
        DoorOffice y = Checks.withStreet(3);
        y.door(0, 0, 10, 0, 0);
        y.door(0, 0, 20, 0, 0);
        y.door(0, 1, 9999, 0, 0);
        y.renumber(0, 3, 0);
        Checks.means(y, "elm 3, old", 0);
        c.due("one right, far away, two left", Checks.found(y), "2 0 1");
    }

    private static void likelyBySideAndPaces() {
        c.sentence("IV: then by ORDER of the street (side 0, then side 1, by paces)");
        for (int rule : new int[] {1, 2, 3}) {
            DoorOffice x = Checks.withStreet(3);
            int[][] places = {{1, 9999}, {0, 9999}, {1, 0}, {0, 0}};
            for (int[] place : places) {
                x.door(0, place[0], place[1], 0, 0);
                x.renumber(0, 3, 0);
            }
            x.renumber(0, rule, 5);
            Checks.means(x, "elm 77, old", 0);
            c.due("rule " + rule, Checks.found(x), "3 1 2 0");
        }
    }

    private static void likelyAll100() {
        c.sentence("26: FOUND are the doors that it means, how many: all 100");
        DoorOffice x = Checks.withStreet(3);
        for (int i = 0; i < 100; i++) {
            x.door(0, i % 2, 99 * i, 0, 0);
        }
        x.renumber(0, 3, 0);
        c.due("100", Checks.means(x, "elm 7, old", 0), 100);
        c.due("count", x.count(9), 100);
        for (int i = 0; i < 100; i++) {
            c.due("found " + i, x.found(i, 0), i < 50 ? 2 * i : 2 * i - 99);
        }
        c.due("no more", x.found(100, 0), NONE);
    }

    private static void meansRefused() {
        c.sentence("26: -2 with a FAULT, or no such day (FOUND stays)");
        DoorOffice x = office();
        c.due("one", Checks.means(x, "elm 1, old", 0), 1);
        c.due("with a FAULT", Checks.means(x, "elm 1, old!", 0), -2);
        c.due("FOUND stays", Checks.found(x), "0!");
        for (int day : new int[] {-1, LAST + 1, LEAST_INT, MOST_INT}) {
            c.due("day " + day, Checks.means(x, "oak 1, old", day), -2);
            c.due("FOUND stays", Checks.found(x), "0!");
        }
        c.due("both", Checks.means(x, "", -1), -2);
        c.due("FOUND stays", x.count(9), 1);
        c.due("none is no refusal", Checks.means(x, "elm 9, old", 0), 0);
        c.due("FOUND are none", x.count(9), 0);
        c.due("FOUND are none", x.found(0, 0), NONE);
    }

    private static void faultOfTheLatest() {
        c.sentence("27: The place of the FAULT of the latest means(), call() or letter(); NONE without one");
        DoorOffice x = office();
        c.due("ahead of any", x.fault(), NONE);
        Checks.means(x, "elm", 0);
        c.due("means", x.fault(), 3);
        Checks.call(x, "elm 1", 0);
        c.due("call", x.fault(), 5);
        Checks.letter(x, "", 0);
        c.due("letter", x.fault(), 0);
        Checks.town(x, "Elm");
        c.due("town() has none", x.fault(), 0);
        Checks.means(x, "elm 1, old", 0);
        c.due("means without", x.fault(), NONE);
        Checks.call(x, "elm 1,", 0);
        Checks.call(x, "elm 1, old", 0);
        c.due("call without", x.fault(), NONE);
        Checks.letter(x, "elm 1,", 0);
        Checks.letter(x, "fir 1, old", 0);
        c.due("letter without, that means no door", x.fault(), NONE);
    }

    private static void foundNone() {
        c.sentence("28: FOUND i by the latest means() (what 0: the door; 1: 1 if it is SURE). NONE if there is none such");
        DoorOffice x = burnt();
        c.due("ahead of any", x.found(0, 0), NONE);
        c.due("three", Checks.means(x, "elm 3, old", 1), 3);
        c.due("the last", x.found(2, 0), 1);
        c.due("it is not SURE", x.found(2, 1), 0);
        for (int i : new int[] {-1, 3, 100, LEAST_INT, MOST_INT}) {
            c.due("found(" + i + ", 0)", x.found(i, 0), NONE);
            c.due("found(" + i + ", 1)", x.found(i, 1), NONE);
        }
        for (int what : new int[] {-1, 2, LEAST_INT, MOST_INT}) {
            c.due("found(0, " + what + ")", x.found(0, what), NONE);
        }
        Checks.call(x, "elm 2, old", 1);
        Checks.letter(x, "elm 2, old", 1);
        c.due("by means(), not by call() or letter()", Checks.found(x), "2 0 1");
        Checks.means(x, "elm 2, old", 1);
        c.due("SURE", x.found(0, 1), 1);
        c.due("no more than that", x.found(1, 0), NONE);
    }

    private static void callSure() {
        c.sentence("29: the door that it means SURE");
        DoorOffice x = burnt();
        c.due("sure", Checks.call(x, "elm 2, old", 1), 3);
        c.due("LIKELY is not SURE", Checks.call(x, "elm 4, old", 1), NONE);
        c.due("LIKELY is not SURE, a back", Checks.call(x, "elm 4 back, old", 1), NONE);
        c.due("LIKELY, and OLD", Checks.call(x, "elm 3, old", 1), -102);
        DoorOffice y = office();
        c.due("door 0", Checks.call(y, "elm 1, old", 0), 0);
        c.due("a floor", Checks.call(y, "elm 1 floor 9, old", LAST), 4);
    }

    private static void callOld() {
        c.sentence("29: or -100 less the one that it meant SURE on the latest day before that on which it meant one");
        DoorOffice x = office();
        x.gone(4, 10);
        c.due("the day ahead it is SURE", Checks.call(x, "elm 1 floor 9, old", 9), 4);
        c.due("the first day it is OLD", Checks.call(x, "elm 1 floor 9, old", 10), -104);
        c.due("the last day it is OLD", Checks.call(x, "elm 1 floor 9, old", LAST), -104);
        x.under(4, 0, 9, 20);
        x.gone(5, 30);
        c.due("between the two: the first", Checks.call(x, "elm 1 floor 9, old", 19), -104);
        c.due("then the second", Checks.call(x, "elm 1 floor 9, old", 20), 5);
        c.due("behind both: the latest", Checks.call(x, "elm 1 floor 9, old", 30), -105);
        c.due("door 0", Checks.call(x, "elm 1, old", LAST), 0);
        x.gone(0, 40);
        c.due("door 0, OLD", Checks.call(x, "elm 1, old", 40), -100);
        x.door(0, 0, 90, 16, 40);
        x.gone(6, 40);
        c.due("one without a day never meant it", Checks.call(x, "elm 1, old", 50), -100);
        Checks.street(x, "ash", 0, 3, 0);
        x.door(2, 0, 10, 0, 60);
        Checks.rename(x, "fir", 0, 70);
        Checks.rename(x, "box", 2, 70);
        Checks.rename(x, "elm", 2, 80);
        c.due("the name of two streets, one after the other", Checks.call(x, "elm 1, old", 75), -100);
        c.due("the name of two streets, one after the other", Checks.call(x, "elm 1, old", 80), 7);
        c.due("the day ahead of all", Checks.call(x, "ash 1, old", 59), NONE);
    }

    private static void callNone() {
        c.sentence("29: NONE if there is none; -2 as for means()");
        DoorOffice x = office();
        c.due("no such number", Checks.call(x, "elm 2, old", LAST), NONE);
        c.due("no such town", Checks.call(x, "elm 1, new", LAST), NONE);
        c.due("not yet", Checks.call(x, "oak 50, old", 4), NONE);
        c.due("on the first day nothing is before", Checks.call(x, "oak 50, old", 0), NONE);
        x.day(9);
        x.gone(1, 6);
        x.as(8);
        c.due("as known it is SURE", Checks.call(x, "oak 1, old", 6), 1);
        x.as(9);
        c.due("as known it is OLD", Checks.call(x, "oak 1, old", 6), -101);
        c.due("with a FAULT", Checks.call(x, "oak 1", 6), -2);
        c.due("no such day", Checks.call(x, "oak 1, old", -1), -2);
        c.due("no such day", Checks.call(x, "oak 1, old", LAST + 1), -2);
    }

    private static void callAsKnown() {
        c.sentence("29: an ADDRESS that is called on a day, as known: what is KNOWN later it never meant");
        DoorOffice x = office();
        x.day(9);
        x.under(4, 0, 1, 10);
        x.door(0, 0, 50, 0, 10);
        x.renumber(0, 0, 20);
        x.renumber(1, 0, 15);
        Checks.rename(x, "fir", 1, 20);
        x.gone(0, 30);
        x.gone(6, 30);
        x.gone(1, 30);
        String[] addresses = {"elm 1 floor 1, old", "elm 2, old", "elm 3, old", "fir 1, old", "oak 2, old", "oak 1, old", "elm 1, old"};
        int[] due = {-105, -106, -106, -101, -100, -101, -100};
        int[] dueKnown = {NONE, NONE, NONE, NONE, NONE, 1, 0};
        for (int i = 0; i < addresses.length; i++) {
            x.as(9);
            c.due("as known on its day: " + addresses[i], Checks.call(x, addresses[i], 50), due[i]);
            x.as(8);
            c.due("as known ahead: " + addresses[i], Checks.call(x, addresses[i], 50), dueKnown[i]);
        }
    }

    private static void endedAheadOfAny() {
        c.sentence("30: NONE ahead of any");
        DoorOffice x = office();
        c.due("ahead of any", x.ended(), NONE);
        Checks.call(x, "elm 1, old", 0);
        c.due("a SURE one is none", x.ended(), NONE);
        Checks.call(x, "elm 2, old", 0);
        c.due("none", x.ended(), NONE);
        Checks.call(x, "elm 2", 0);
        c.due("a refused one is none", x.ended(), NONE);
    }

    private static void endedOfTheLatestOld() {
        c.sentence("30: The first day on which the ADDRESS of the latest call() that was OLD was not that door's any more");
        DoorOffice x = office();
        x.gone(1, 6);
        x.gone(0, LAST);
        Checks.call(x, "oak 1, old", 50);
        c.due("by gone", x.ended(), 6);
        Checks.call(x, "elm 1, old", 50);
        Checks.call(x, "elm 2, old", 50);
        Checks.call(x, "elm 2", 50);
        Checks.call(x, "oak 1, old", -1);
        c.due("it stays with others", x.ended(), 6);
        Checks.call(x, "oak 50, old", LAST);
        c.due("the last day", x.ended(), LAST);
        DoorOffice y = office();
        Checks.town(y, "new");
        y.renumber(0, 0, 20);
        Checks.rename(y, "fir", 0, 30);
        y.join(1, 0, 40);
        y.renumber(0, 3, 50);
        Checks.call(y, "elm 1, old", 60);
        c.due("by the name", y.ended(), 30);
        Checks.call(y, "fir 1, old", 60);
        c.due("by the town", y.ended(), 40);
        Checks.call(y, "fir 1, new", 60);
        c.due("by the number", y.ended(), 50);
        Checks.call(y, "oak 50, old", 60);
        c.due("by the town, of a corner", y.ended(), 40);
    }

    private static DoorOffice pairs() {
        DoorOffice x = new DoorOffice();
        Checks.town(x, "old");
        Checks.town(x, "new");
        for (String name : new String[] {"elm", "oak", "ash"}) {
            Checks.street(x, name, 0, 3, 0);
        }
        for (String name : new String[] {"ash", "elm", "fir"}) {
            Checks.street(x, name, 1, 3, 0);
        }
        int[][] doors = {{0, 0, 10, 16}, {0, 0, 20, 33}, {1, 1, 10, 16}, {1, 1, 20, 33}, {2, 0, 10, 80}, {3, 0, 10, 80}, {4, 0, 10, 33},
            {4, 1, 10, 16}, {5, 0, 10, 16}, {3, 0, 20, 96}};
        for (int[] d : doors) {
            x.door(d[0], d[1], d[2], d[3], 0);
        }
        return x;
    }

    private static void twiceOfStreets() {
        c.sentence("31: PAIRS, by open SPANS, if a street (kind 0: a) had the NAME of another one (b): of like known NUMBERS");
        DoorOffice x = pairs();
        c.due("two", x.twice(0, 0, 1), 2);
        c.due("by wholes", Checks.pairs(x), "0-2 1-3");
        c.due("none", x.twice(0, 0, 2), 0);
        c.due("none", Checks.pairs(x), "");
        x.gone(2, LAST);
        c.due("gone from the last day on", x.twice(0, 0, 1), 1);
        x.renumber(1, 3, LAST);
        c.due("UNKNOWN", x.twice(0, 0, 1), 0);
        x.renumber(0, 3, LAST);
        c.due("two UNKNOWN ones are not alike", x.twice(0, 0, 1), 0);
        x.as(0);
        x.undo();
        x.undo();
        x.undo();
        c.due("taken back", x.twice(0, 1, 0), 2);
        c.due("the other way", Checks.pairs(x), "2-0 3-1");
    }

    private static void twiceOfFiftyPairs() {
        c.sentence("31: how many: as many as 100 doors can be");
        DoorOffice x = Checks.withStreet(3);
        Checks.street(x, "oak", 0, 3, 0);
        for (int i = 0; i < 100; i++) {
            x.door(i / 50, 0, i, 1600 - 16 * (i < 50 ? 49 - i : 99 - i), 0);
        }
        c.due("fifty", x.twice(0, 0, 1), 50);
        for (int i = 0; i < 50; i++) {
            c.due("pair " + i + ", a", x.pair(i, 0), i);
            c.due("pair " + i + ", b", x.pair(i, 1), 50 + i);
        }
    }

    private static void twiceOfTowns() {
        c.sentence("31: or town b were joined to a (kind 1): in two streets that would have one NAME");
        DoorOffice x = pairs();
        c.due("elm and ash", x.twice(1, 0, 1), 3);
        c.due("by streets of a, then wholes", Checks.pairs(x), "0-7 1-6 4-5");
        c.due("the other way", x.twice(1, 1, 0), 3);
        c.due("by streets of a, then wholes", Checks.pairs(x), "5-4 7-0 6-1");
        Checks.rename(x, "oak", 4, LAST);
        c.due("by open spans: oak from the last day on", x.twice(1, 0, 1), 3);
        c.due("by open spans", Checks.pairs(x), "2-7 3-6 4-5");
        Checks.town(x, "far");
        c.due("a town without streets", x.twice(1, 0, 2), 0);
        DoorOffice y = new DoorOffice();
        Checks.town(y, "old");
        Checks.town(y, "new");
        for (int street = 0; street < 12; street++) {
            Checks.street(y, "" + (char) ('a' + street), 0, 3, 0);
            Checks.street(y, "" + (char) ('a' + street), 1, 3, 0);
        }
        y.door(23, 0, 10, 0, 0);
        y.door(22, 1, 20, 0, 0);
        c.due("the last streets alone have doors", y.twice(1, 0, 1), 1);
        c.due("the last streets alone have doors", Checks.pairs(y), "1-0");
    }

    private static void twiceRefused() {
        c.sentence("31: -1; -2 kind, a is b");
        DoorOffice x = pairs();
        for (int none : new int[] {-1, 6, LEAST_INT, MOST_INT}) {
            c.due("street a " + none, x.twice(0, none, 0), -1);
            c.due("street b " + none, x.twice(0, 0, none), -1);
            c.due("streets " + none, x.twice(0, none, none), -1);
        }
        for (int none : new int[] {-1, 2, LEAST_INT, MOST_INT}) {
            c.due("town a " + none, x.twice(1, none, 0), -1);
            c.due("town b " + none, x.twice(1, 0, none), -1);
            c.due("kind " + none, x.twice(none, 0, 1), -2);
        }
        c.due("one street", x.twice(0, 5, 5), -2);
        c.due("one town", x.twice(1, 1, 1), -2);
    }

    private static void pairOfTheLatest() {
        c.sentence("32: Of pair i of the latest twice() that was not refused");
        DoorOffice x = pairs();
        x.twice(0, 0, 1);
        x.twice(0, 0, 0);
        x.twice(0, 0, 6);
        x.twice(2, 0, 1);
        c.due("refused ones do not count", Checks.pairs(x), "0-2 1-3");
        x.gone(0, 0);
        c.due("it is not made anew", Checks.pairs(x), "0-2 1-3");
        x.twice(0, 0, 2);
        c.due("one of none does", Checks.pairs(x), "");
    }

    private static void pairNone() {
        c.sentence("32: 0 the door in the street of a, 1 that of b. NONE if there is none such");
        DoorOffice x = pairs();
        c.due("ahead of any", x.pair(0, 0), NONE);
        x.twice(0, 0, 1);
        c.due("the last, a", x.pair(1, 0), 1);
        c.due("the last, b", x.pair(1, 1), 3);
        for (int i : new int[] {-1, 2, 100, LEAST_INT, MOST_INT}) {
            c.due("pair(" + i + ", 0)", x.pair(i, 0), NONE);
            c.due("pair(" + i + ", 1)", x.pair(i, 1), NONE);
        }
        for (int which : new int[] {-1, 2, LEAST_INT, MOST_INT}) {
            c.due("pair(0, " + which + ")", x.pair(0, which), NONE);
        }
    }

    private static void freeRefused() {
        c.sentence("33: The LEAST NUMBER for a place, as a whole. -1, -2, -4, -5 as for door()");
        DoorOffice x = Checks.withStreet(0);
        x.door(0, 0, 10, 0, 0);
        x.door(0, 0, 20, 0, 0);
        c.due("the least", x.free(0, 0, 30), 80);
        c.due("and again: it is only told", x.free(0, 0, 30), 80);
        for (int street : new int[] {-1, 1, LEAST_INT, MOST_INT}) {
            c.due("street " + street, x.free(street, 0, 30), -1);
        }
        c.due("side", x.free(0, 2, 30), -2);
        c.due("paces", x.free(0, 0, 10000), -2);
        c.due("none left", x.free(0, 0, 0), -4);
        c.due("a door stands there", x.free(0, 0, 20), -5);
        c.due("a door stands there, too", x.free(0, 0, 10), -5);
        DoorOffice y = Checks.withStreet(0);
        y.door(0, 0, 10, 16, 0);
        y.door(0, 0, 20, 25, 0);
        y.door(0, 0, 30, 48, 0);
        c.due("the door that stands there is neither behind nor ahead", y.free(0, 0, 20), -5);
        c.due("behind it there is none", y.free(0, 0, 21), -4);
        x.gone(1, LAST);
        c.due("it is gone from the last day on", x.free(0, 0, 20), 48);
        Checks.fillPapers(x, 0, 0, LAST, 200);
        c.due("there is no room for a door", x.door(0, 0, 20, 0, LAST), -6);
        c.due("but there is a number", x.free(0, 0, 20), 48);
    }

    private static void nearOfSeveral() {
        c.sentence("34: nearest to a place by paces (of several that on this side, then that with fewer paces)");
        DoorOffice x = Checks.withStreet(3);
        int[][] doors = {{0, 100}, {1, 100}, {0, 300}, {1, 300}, {1, 500}};
        for (int[] d : doors) {
            x.door(0, d[0], d[1], 0, 0);
        }
        c.due("this side, left", x.near(0, 0, 100, 0), 0);
        c.due("this side, right", x.near(0, 1, 100, 0), 1);
        c.due("in the middle: fewer paces, left", x.near(0, 0, 200, 0), 0);
        c.due("in the middle: fewer paces, right", x.near(0, 1, 200, 0), 1);
        c.due("one pace on", x.near(0, 0, 201, 0), 2);
        c.due("one pace on", x.near(0, 1, 201, 0), 3);
        c.due("this side ahead of fewer paces", x.near(0, 0, 400, 0), 2);
        c.due("the other side, if it is nearer", x.near(0, 0, 401, 0), 4);
        c.due("the first place", x.near(0, 1, 0, 0), 1);
        c.due("the last place", x.near(0, 0, 9999, 0), 4);
        x.gone(0, 5);
        x.gone(2, 5);
        c.due("on the other side alone: fewer paces", x.near(0, 0, 200, 5), 1);
        c.due("on the other side alone: fewer paces", x.near(0, 0, 400, 5), 3);
        c.due("on the day ahead", x.near(0, 0, 200, 4), 0);
        DoorOffice y = Checks.withStreet(3);
        y.door(0, 0, 30, 0, 0);
        y.door(0, 1, 10, 0, 0);
        c.due("this side, though the other one has fewer paces", y.near(0, 0, 20, 0), 0);
        c.due("this side, which has fewer paces", y.near(0, 1, 20, 0), 1);
    }

    private static void nearNone() {
        c.sentence("34: NONE if there is none, or no such street, side, day, paces");
        DoorOffice x = Checks.withStreet(3);
        Checks.street(x, "oak", 0, 3, 0);
        x.door(0, 0, 10, 0, 5);
        x.gone(0, 9);
        c.due("a street without doors", x.near(1, 0, 10, 5), NONE);
        c.due("the day ahead", x.near(0, 0, 10, 4), NONE);
        c.due("the first day", x.near(0, 0, 10, 5), 0);
        c.due("the last day", x.near(0, 0, 10, 8), 0);
        c.due("gone", x.near(0, 0, 10, 9), NONE);
        for (int none : new int[] {-1, 2, LEAST_INT, MOST_INT}) {
            c.due("street " + none, x.near(none, 0, 10, 5), NONE);
            c.due("side " + none, x.near(0, none, 10, 5), NONE);
        }
        for (int none : new int[] {-1, 10000, LEAST_INT, MOST_INT}) {
            c.due("paces " + none, x.near(0, 0, none, 5), NONE);
        }
        for (int none : new int[] {-1, LAST + 1, LEAST_INT, MOST_INT}) {
            c.due("day " + none, x.near(0, 0, 10, none), NONE);
        }
    }
}

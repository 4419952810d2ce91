/** Promises 35 to 40: STOPS, walks, and LETTERS that are sorted by them. */
public final class WalkTest {
    private static final Checks c = new Checks();

    public static void main(String[] args) {
        stops();
        ways();
        cornersOnce();
        undersBehind();
        walksOnDays();
        letters();
        sortingTwice();
        stopsOfStreetsTakenBack();
        c.finish();
    }

    private static DoorOffice street() {
        DoorOffice x = Checks.withStreet(3);
        int[][] places = {{0, 10}, {0, 20}, {1, 10}, {1, 20}, {0, 30}, {1, 25}};
        for (int[] place : places) {
            x.door(0, place[0], place[1], 0, 0);
        }
        return x;
    }

    private static void stops() {
        DoorOffice x = Checks.withStreet(0);
        c.due("no street", x.stop(1, 0), -1);
        c.due("no street, none", x.stop(1, -1), -1);
        c.due("no street, way", x.stop(-1, 7), -1);
        c.due("way 3", x.stop(0, 3), -2);
        c.due("way -2", x.stop(0, -2), -2);
        for (int i = 1; i <= 24; i++) {
            c.due("stop " + i, x.stop(0, i % 3), i);
        }
        c.due("a 25th", x.stop(0, 0), -6);
        c.due("a 25th, way", x.stop(0, 3), -2);
        c.due("count(7)", x.count(7), 24);
        c.due("none any more", x.stop(0, -1), 0);
        c.due("count(7)", x.count(7), 0);
        c.due("one", x.stop(0, 2), 1);
    }

    private static void ways() {
        DoorOffice x = street();
        c.due("doors", x.count(2), 6);
        c.due("no stops", x.walk(0), 0);
        x.stop(0, 0);
        c.due("way 0", x.walk(0), 6);
        c.due("way 0", Checks.walked(x), "0 1 4 5 3 2");
        x.stop(0, -1);
        x.stop(0, 1);
        x.walk(0);
        c.due("way 1", Checks.walked(x), "0 2 1 3 5 4");
        x.stop(0, -1);
        x.stop(0, 2);
        x.walk(0);
        c.due("way 2", Checks.walked(x), "4 5 3 1 2 0");
        c.due("no day", x.walk(-1), -2);
        c.due("no day", x.walk(109575), -2);
        c.due("the walk stays", Checks.walked(x), "4 5 3 1 2 0");
        c.due("walked(-1)", x.walked(-1), -1);
        c.due("walked(6)", x.walked(6), -1);
        x.stop(0, -1);
        c.due("the walk stays", x.walked(0), 4);
    }

    private static void cornersOnce() {
        DoorOffice x = Checks.withStreet(0);
        Checks.street(x, "oak", 0, 0, 0);
        x.door(0, 0, 10, 0, 0);
        x.door(0, 0, 20, 0, 0);
        x.door(1, 0, 10, 0, 0);
        x.corner(0, 1, 0, 50, 0, 5);
        x.stop(1, 0);
        x.stop(0, 0);
        x.stop(1, 1);
        c.due("ahead of the corner", x.walk(4), 3);
        c.due("ahead of the corner", Checks.walked(x), "2 0 1");
        x.under(4, 0, 1, 6);
        c.due("corner", x.walk(6), 4);
        c.due("corner", Checks.walked(x), "2 0 3 1");
        x.stop(1, -1);
        x.stop(0, 2);
        x.stop(1, 2);
        x.walk(6);
        c.due("the other street first", Checks.walked(x), "1 0 3 2");
    }

    private static void undersBehind() {
        DoorOffice x = Checks.withStreet(0);
        x.door(0, 0, 10, 0, 0);
        x.door(0, 0, 20, 0, 0);
        x.under(4, 0, 2, 0);
        x.under(4, 0, 1, 0);
        x.under(2, 0, 0, 0);
        x.under(3, 4, 12, 0);
        x.under(3, 4, 3, 0);
        x.under(2, 1, 0, 0);
        x.under(4, 0, 10, 3);
        x.stop(0, 1);
        c.due("on day 0", x.walk(0), 8);
        c.due("by sort, then number", Checks.walked(x), "0 4 6 5 3 2 1 7");
        x.walk(3);
        c.due("on day 3", Checks.walked(x), "0 4 6 5 3 2 8 1 7");
        x.gone(4, 5);
        x.walk(5);
        c.due("without back and courts", Checks.walked(x), "0 3 2 8 1 7");
    }

    private static void walksOnDays() {
        DoorOffice x = Checks.withStreet(0);
        x.door(0, 0, 10, 0, 2);
        x.day(10);
        x.gone(0, 5);
        x.door(0, 0, 30, 0, 5);
        x.stop(0, 0);
        c.due("ahead", x.walk(1), 0);
        x.walk(4);
        c.due("first", Checks.walked(x), "0");
        x.walk(5);
        c.due("second", Checks.walked(x), "1");
        x.as(9);
        x.walk(5);
        c.due("as known", Checks.walked(x), "0");
        x.as(-1);
        x.renumber(0, 3, 7);
        x.walk(7);
        c.due("unknown ones, too", Checks.walked(x), "1");
    }

    private static void letters() {
        DoorOffice x = street();
        x.under(2, 0, 0, 0);
        x.stop(0, 0);
        c.due("wrong text", Checks.letter(x, "elm", 0), -2);
        c.due("no day", Checks.letter(x, "elm 1, old", -1), -2);
        c.due("no door", Checks.letter(x, "elm 99, old", 0), -1);
        c.due("none", x.sort(), 0);
        String[] numbers = new String[6];
        for (int door = 0; door < 6; door++) {
            x.write(door, 0, 0);
            numbers[door] = Checks.out(x);
        }
        c.due("first", Checks.letter(x, numbers[5], 0), 1);
        c.due("second", Checks.letter(x, numbers[0], 0), 2);
        c.due("third", Checks.letter(x, numbers[0].replace(",", " back,"), 0), 3);
        c.due("fourth", Checks.letter(x, numbers[5], 0), 4);
        c.due("fifth", Checks.letter(x, numbers[0], 0), 5);
        c.due("count(8)", x.count(8), 5);
        c.due("no walk yet: as they came", x.sort(), 5);
        c.due("no walk yet: as they came", Checks.sorted(x), "0>5 1>0 2>6 3>5 4>0");
        c.due("they went", x.count(8), 0);
    }

    private static void sortingTwice() {
        DoorOffice x = Checks.withStreet(0);
        Checks.street(x, "oak", 0, 0, 0);
        x.door(0, 0, 10, 0, 0);
        x.door(0, 0, 20, 0, 0);
        x.door(1, 0, 10, 0, 0);
        x.under(4, 0, 5, 0);
        x.stop(0, 2);
        x.walk(0);
        c.due("walked", Checks.walked(x), "1 0 3");
        String[] letters = {"oak 1, old", "elm 1, old", "elm 3, old", "elm 1 floor 5, old", "elm 1, old", "oak 1, old"};
        for (String letter : letters) {
            Checks.letter(x, letter, 0);
        }
        c.due("sort", x.sort(), 6);
        c.due("sorted", Checks.sorted(x), "2>1 1>0 4>0 3>3 0>2 5>2");
        c.due("sorted(0, 2)", x.sorted(0, 2), -1);
        c.due("sorted(0, -1)", x.sorted(0, -1), -1);
        c.due("sorted(6, 0)", x.sorted(6, 0), -1);
        c.due("sorted(-1, 0)", x.sorted(-1, 0), -1);
        Checks.letter(x, "elm 3, old", 0);
        c.due("as SORTED latest", Checks.sorted(x), "2>1 1>0 4>0 3>3 0>2 5>2");
        c.due("one", x.sort(), 1);
        c.due("numbers from 0 on", Checks.sorted(x), "0>1");
        c.due("none", x.sort(), 0);
        c.due("none", x.sorted(0, 0), -1);
        for (int i = 1; i <= 60; i++) {
            c.due("letter " + i, Checks.letter(x, "elm 3, old", 0), i);
        }
        c.due("a 61st", Checks.letter(x, "elm 3, old", 0), -6);
        c.due("a 61st without a door", Checks.letter(x, "elm 5, old", 0), -1);
        c.due("a 61st with a fault", Checks.letter(x, "elm 5, ", 0), -2);
        c.due("sort", x.sort(), 60);
        x.gone(1, 10);
        c.due("for a day", Checks.letter(x, "elm 3, old", 9), 1);
        c.due("for a day", Checks.letter(x, "elm 3, old", 10), -1);
    }

    private static void stopsOfStreetsTakenBack() {
        DoorOffice x = Checks.withStreet(0);
        x.door(0, 0, 10, 0, 0);
        Checks.street(x, "oak", 0, 0, 0);
        x.stop(1, 0);
        x.stop(0, 0);
        x.undo();
        c.due("it is passed over", x.walk(0), 1);
        c.due("but it is there", x.count(7), 2);
    }
}

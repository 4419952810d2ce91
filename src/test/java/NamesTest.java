/** Promises 7 to 9, 15 and 16: towns, SHORT forms, streets, renaming and joining. */
public final class NamesTest {
    private static final Checks c = new Checks();

    public static void main(String[] args) {
        towns();
        namesThatCannotBe();
        shortForms();
        shortFormsLimits();
        streets();
        streetsSecondOnes();
        renaming();
        joining();
        joiningRefused();
        c.finish();
    }

    private static void towns() {
        DoorOffice x = new DoorOffice();
        c.due("first town", Checks.town(x, "old"), 0);
        c.due("the tape went", x.count(10), 0);
        c.due("the same", Checks.town(x, "old"), -5);
        c.due("the tape went, refused", x.count(10), 0);
        c.due("three words of twelve", Checks.town(x, "abcdefghijkl abcdefghijkl zzzzzzzzzzzz"), 1);
        for (int i = 2; i < 8; i++) {
            c.due("town " + i, Checks.town(x, "old " + (char) ('a' + i)), i);
        }
        c.due("a ninth", Checks.town(x, "new"), -6);
        c.due("a ninth that is there", Checks.town(x, "old"), -5);
        c.due("a ninth that can't be", Checks.town(x, "Old"), -2);
        c.due("count(0)", x.count(0), 8);
        c.due("no paper", x.count(3), 0);
    }

    private static void namesThatCannotBe() {
        String[] texts = {"", " ", "a ", " a", "a  b", "a b c d", "A", "a1", "a-b", "abcdefghijklm", "a abcdefghijklm", "a b c ",
            "a`", "a{", "a\n", "\u00e4"};
        DoorOffice x = new DoorOffice();
        for (String text : texts) {
            c.due("town '" + text + "'", Checks.town(x, text), -2);
        }
        Checks.town(x, "old");
        for (String text : texts) {
            c.due("street '" + text + "'", Checks.street(x, text, 0, 0, 0), -2);
        }
        Checks.street(x, "elm", 0, 0, 0);
        for (String text : texts) {
            c.due("rename '" + text + "'", Checks.rename(x, text, 0, 0), -2);
        }
        c.due("count(0)", x.count(0), 1);
        c.due("count(1)", x.count(1), 1);
        c.due("count(3)", x.count(3), 1);
    }

    private static int shorten(DoorOffice x, String text) {
        return Checks.tell(x, text).shorten();
    }

    private static void shortForms() {
        DoorOffice x = new DoorOffice();
        c.due("st street", shorten(x, "st street"), 1);
        c.due("the tape went", x.count(10), 0);
        c.due("street road", shorten(x, "street road"), 2);
        for (String text : new String[] {"", "st", "st ", " st", "st  a", "st a b", "St a", "st a ", "abcdefghijklm a", "a abcdefghijklm"}) {
            c.due("shorten '" + text + "'", shorten(x, text), -2);
        }
        c.due("a town with one", Checks.town(x, "st old"), 0);
        c.due("the same, read once", Checks.town(x, "st old"), -5);
        c.due("not the same: road old", Checks.town(x, "street old"), 1);
        c.due("a street with one", Checks.street(x, "elm st", 0, 0, 0), 0);
        x.door(0, 0, 5, 0, 0);
        x.write(0, 0, 0);
        c.due("as it is kept", Checks.out(x), "elm street 1, street old");
        c.due("read in an address", Checks.means(x, "elm st 1, st old", 0), 1);
        c.due("as it is kept it is read anew", Checks.means(x, "elm street 1, street old", 0), 0);
        c.due("the first word is of a town", shorten(x, "old new"), -5);
        c.due("the first word is of a street", shorten(x, "elm oak"), -5);
        c.due("one that is there, but of a name", shorten(x, "street lane"), -5);
        c.due("taken anew", shorten(x, "st lane"), 2);
        c.due("read anew", Checks.means(x, "elm st 1, street old", 0), 0);
        c.due("rename with one", Checks.rename(x, "oak st", 0, 3), 1);
        x.write(0, 0, 3);
        c.due("renamed", Checks.out(x), "oak lane 1, street old");
        c.due("a name that it had", shorten(x, "elm ash"), -5);
        c.due("a name that it will have", shorten(x, "oak ash"), -5);
        x.undo();
        c.due("a name of a paper taken back", shorten(x, "oak ash"), 3);
        c.due("the second word may be of a name", shorten(x, "e elm"), 4);
        c.due("no papers", x.count(3), 2);
    }

    private static void shortFormsLimits() {
        DoorOffice x = new DoorOffice();
        Checks.town(x, "old");
        for (int i = 0; i < 20; i++) {
            c.due("short form " + i, shorten(x, (char) ('a' + i) + " x"), i + 1);
        }
        c.due("a 21st", shorten(x, "u x"), -6);
        c.due("a 21st of a name", shorten(x, "old x"), -5);
        c.due("one anew", shorten(x, "a y"), 20);
        c.due("count(6)", x.count(6), 20);
        c.due("town by the new meaning", Checks.town(x, "y"), 1);
        c.due("the same by its short form", Checks.town(x, "a"), -5);
        c.due("twelve letters", Checks.town(x, "abcdefghijkl"), 2);
    }

    private static void streets() {
        DoorOffice x = new DoorOffice();
        c.due("no town", Checks.street(x, "elm", 0, 0, 0), -1);
        c.due("the tape went", x.count(10), 0);
        Checks.town(x, "old");
        Checks.town(x, "new");
        c.due("town -1", Checks.street(x, "elm", -1, 0, 0), -1);
        c.due("town 2", Checks.street(x, "elm", 2, 9, -5), -1);
        c.due("rule 4", Checks.street(x, "elm", 0, 4, 0), -2);
        c.due("rule -1", Checks.street(x, "elm", 0, -1, 0), -2);
        c.due("day -1", Checks.street(x, "elm", 0, 0, -1), -2);
        c.due("day 109575", Checks.street(x, "elm", 0, 0, 109575), -2);
        c.due("on the last day", Checks.street(x, "last", 0, 0, 109574), 0);
        c.due("count(3)", x.count(3), 1);
        for (int i = 1; i < 24; i++) {
            c.due("street " + i, Checks.street(x, "elm " + (char) ('a' + i), i % 2, i % 4, i), i);
            c.due("its rule", x.count(100 + i), i % 4);
        }
        c.due("a 25th", Checks.street(x, "oak", 0, 0, 0), -6);
        c.due("a 25th that is there", Checks.street(x, "last", 0, 0, 0), -5);
        c.due("count(1)", x.count(1), 24);
    }

    private static void streetsSecondOnes() {
        DoorOffice x = new DoorOffice();
        Checks.town(x, "old");
        Checks.town(x, "new");
        c.due("elm from 10", Checks.street(x, "elm", 0, 0, 10), 0);
        c.due("elm ahead of it", Checks.street(x, "elm", 0, 0, 5), -5);
        c.due("elm behind it", Checks.street(x, "elm", 0, 0, 50), -5);
        c.due("elm in the other town", Checks.street(x, "elm", 1, 0, 5), 1);
        c.due("elm is oak from 20", Checks.rename(x, "oak", 0, 20), 1);
        c.due("elm from 19", Checks.street(x, "elm", 0, 0, 19), -5);
        c.due("oak from 0", Checks.street(x, "oak", 0, 0, 0), -5);
        c.due("elm from 20", Checks.street(x, "elm", 0, 0, 20), 2);
        x.as(0);
        x.day(5);
        c.due("as known does not matter", Checks.street(x, "oak", 0, 0, 0), -5);
    }

    private static void renaming() {
        DoorOffice x = Checks.withStreet(0);
        Checks.street(x, "oak", 0, 0, 5);
        x.door(0, 0, 1, 0, 10);
        c.due("no such street", Checks.rename(x, "ash", 2, 0), -1);
        c.due("the tape went", x.count(10), 0);
        c.due("street -1", Checks.rename(x, "Ash", -1, -1), -1);
        c.due("day -1", Checks.rename(x, "ash", 0, -1), -2);
        c.due("too early", Checks.rename(x, "oak", 0, 9), -3);
        c.due("second one", Checks.rename(x, "oak", 0, 10), -5);
        c.due("its own name", Checks.rename(x, "elm", 0, 10), -5);
        c.due("renamed", Checks.rename(x, "ash", 0, 12), 1);
        c.due("too early then", Checks.rename(x, "fir", 0, 11), -3);
        c.due("the other may have it then", Checks.rename(x, "elm", 1, 12), 1);
        c.due("the day ahead", x.write(0, 0, 11), 10);
        c.due("the day ahead", Checks.out(x), "elm 1, old");
        x.write(0, 0, 12);
        c.due("then", Checks.out(x), "ash 1, old");
        c.due("a span without a day", Checks.rename(x, "fir", 0, 12), 1);
        c.due("held on none", Checks.means(x, "ash 1, old", 12), 0);
        c.due("fir is right", Checks.means(x, "fir 1, old", 12), 1);
        c.due("back to ash", Checks.rename(x, "ash", 0, 12), 1);
        c.due("ash is right", Checks.means(x, "ash 1, old", 12), 1);
    }

    private static void joining() {
        DoorOffice x = new DoorOffice();
        Checks.town(x, "old");
        Checks.town(x, "new");
        Checks.town(x, "far");
        Checks.street(x, "elm", 0, 0, 0);
        Checks.street(x, "oak", 1, 0, 3);
        Checks.street(x, "ash", 1, 0, 0);
        x.door(1, 0, 1, 0, 5);
        c.due("below a paper on its street", x.join(0, 1, 4), -3);
        x.day(7);
        c.due("two streets", x.join(0, 1, 10), 2);
        c.due("the town then", Checks.means(x, "oak 1, new", 9), 1);
        c.due("no town any more", Checks.means(x, "oak 1, new", 10), 0);
        c.due("the other town", Checks.means(x, "oak 1, old", 10), 1);
        c.due("not yet", Checks.means(x, "oak 1, old", 9), 0);
        x.write(0, 0, 10);
        c.due("address", Checks.out(x), "oak 1, old");
        x.as(6);
        c.due("as known ahead of it", Checks.means(x, "oak 1, new", 10), 1);
        x.as(-1);
        c.due("a street there", Checks.street(x, "fir", 1, 0, 20), -1);
        c.due("a street ahead of the join", Checks.street(x, "fir", 0, 0, 9), -3);
        c.due("a door ahead of the join", x.door(0, 0, 1, 0, 9), -3);
        c.due("a door of a moved one", x.door(1, 0, 2, 0, 9), -3);
        c.due("a street of the third town", Checks.street(x, "fir", 2, 0, 0), 3);
        c.due("joined again", x.join(2, 1, 20), -1);
        c.due("joined again", x.join(1, 2, 20), -1);
        c.due("below the join", x.join(2, 0, 9), -3);
        c.due("the joined one goes on", x.join(2, 0, 10), 3);
        c.due("in the third", Checks.means(x, "oak 1, far", 10), 1);
        c.due("a span without a day", Checks.means(x, "oak 1, old", 10), 0);
        c.due("papers", x.undo(), 6);
        c.due("the join was taken back", Checks.means(x, "oak 1, old", 10), 1);
        c.due("a town's name stays", Checks.town(x, "new"), -5);
    }

    private static void joinedTownsAlone() {
        DoorOffice x = new DoorOffice();
        Checks.town(x, "old");
        Checks.town(x, "new");
        Checks.town(x, "far");
        Checks.street(x, "elm", 0, 0, 3);
        Checks.street(x, "oak", 1, 0, 5);
        Checks.street(x, "ash", 2, 0, 90);
        c.due("below b", x.join(0, 1, 4), -3);
        c.due("below a", x.join(1, 0, 4), -3);
        c.due("a third town does not matter", x.join(0, 1, 5), 1);
        c.due("below the third town", x.join(2, 0, 89), -3);
        c.due("all in the third", x.join(2, 0, 90), 2);
    }

    private static void joiningRefused() {
        DoorOffice x = new DoorOffice();
        Checks.town(x, "old");
        Checks.town(x, "new");
        Checks.street(x, "elm", 0, 0, 0);
        Checks.street(x, "elm", 1, 0, 0);
        c.due("no such town", x.join(0, 2, 0), -1);
        c.due("no such town", x.join(-1, 0, 0), -1);
        c.due("no such towns, the same", x.join(5, 5, 0), -1);
        c.due("the same", x.join(1, 1, 0), -2);
        c.due("day -1", x.join(0, 1, -1), -2);
        c.due("day 109575", x.join(0, 1, 109575), -2);
        c.due("one name", x.join(0, 1, 0), -5);
        c.due("nothing changed", x.count(3), 2);
        Checks.rename(x, "oak", 1, 10);
        c.due("too early", x.join(0, 1, 9), -3);
        c.due("no more one name", x.join(0, 1, 10), 1);
        c.due("taken back", x.undo(), 3);
        c.due("the town is there again", Checks.street(x, "fir", 1, 0, 0), 2);
        c.due("three streets", x.join(1, 0, 10), 1);
        joinedTownsAlone();
        DoorOffice y = new DoorOffice();
        Checks.town(y, "old");
        Checks.town(y, "new");
        c.due("no streets", y.join(0, 1, 5), 0);
        c.due("ahead of a join of no streets", Checks.street(y, "elm", 0, 0, 4), -3);
        c.due("on its day", Checks.street(y, "elm", 0, 0, 5), 0);
    }
}

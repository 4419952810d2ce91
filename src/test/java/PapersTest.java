/** Promises 19 to 21, what all papers ask of their day, and the room that there is for them. */
public final class PapersTest {
    private static final Checks c = new Checks();

    public static void main(String[] args) {
        undoEachKind();
        undoneDaysAreFreeAgain();
        images();
        imagesKeepAll();
        roomForPapers();
        roomForDoors();
        roomForSpans();
        rowsOfStreetsTakenBack();
        c.finish();
    }

    private static DoorOffice start() {
        DoorOffice x = Checks.withStreet(0);
        Checks.town(x, "new");
        Checks.street(x, "oak", 0, 0, 0);
        Checks.street(x, "ash", 1, 0, 0);
        x.door(0, 0, 10, 0, 0);
        x.door(0, 1, 10, 0, 0);
        return x;
    }

    private static void undoEachKind() {
        DoorOffice x = start();
        c.due("papers", x.count(3), 5);
        x.corner(0, 1, 0, 5, 0, 1);
        c.due("corner", x.undo(), 5);
        c.due("spans", x.count(4), 2);
        c.due("no number there", x.number(0, 1, 5, 0), -1);
        c.due("a corner again", x.corner(0, 1, 0, 5, 80, 1), 80);
        x.under(2, 0, 0, 1);
        c.due("under", x.undo(), 6);
        c.due("doors", x.count(2), 2);
        x.renumber(0, 2, 2);
        c.due("by paces", x.number(0, 0, 2, 0), 48);
        c.due("renumber", x.undo(), 6);
        c.due("rule", x.count(100), 0);
        c.due("number", x.number(0, 0, 2, 0), 16);
        c.due("open again", x.number(0, 0, 2, 2), -1);
        Checks.rename(x, "yew", 0, 2);
        c.due("rename", x.undo(), 6);
        c.due("named as before", Checks.means(x, "elm 1, old", 2), 1);
        c.due("not as renamed", Checks.means(x, "yew 1, old", 2), 0);
        x.join(1, 0, 2);
        c.due("join", x.undo(), 6);
        c.due("the town is there", Checks.means(x, "elm 1, old", 2), 1);
        x.gone(0, 3);
        c.due("gone", x.undo(), 6);
        c.due("stands", x.stands(0, 3), true);
        c.due("its second number", x.number(0, 1, 3, 0), 80);
        c.due("corner", x.undo(), 5);
        c.due("door", x.undo(), 4);
        c.due("door", x.undo(), 3);
        c.due("none", x.count(2), 0);
        c.due("no spans", x.count(4), 0);
        c.due("street", x.undo(), 2);
        c.due("street", x.undo(), 1);
        c.due("street", x.undo(), 0);
        c.due("no streets", x.count(1), 0);
        c.due("nothing", x.undo(), -1);
        c.due("towns are no papers", x.count(0), 2);
    }

    private static void undoneDaysAreFreeAgain() {
        DoorOffice x = start();
        x.door(0, 0, 20, 0, 50);
        c.due("too early", x.door(0, 0, 30, 0, 49), -3);
        x.undo();
        c.due("not any more", x.door(0, 0, 30, 0, 49), 2);
        x.join(1, 0, 60);
        c.due("too early", Checks.street(x, "yew", 1, 0, 59), -3);
        x.undo();
        c.due("not any more", Checks.street(x, "yew", 1, 0, 59), 3);
        c.due("the other street is free of that", x.door(1, 0, 30, 0, 0), 3);
    }

    private static void images() {
        DoorOffice x = start();
        c.due("none", x.back(0), false);
        c.due("place -1", x.image(-1), false);
        c.due("place 3", x.image(3), false);
        c.due("place 0", x.image(0), true);
        x.door(0, 0, 50, 0, 0);
        c.due("place 2", x.image(2), true);
        x.day(9);
        x.renumber(0, 1, 9);
        c.due("back, place 1", x.back(1), false);
        c.due("back, place -1", x.back(-1), false);
        c.due("back, place 3", x.back(3), false);
        c.due("nothing changed", x.count(3), 7);
        c.due("back, place 2", x.back(2), true);
        c.due("papers", x.count(3), 6);
        c.due("today", x.count(5), 0);
        c.due("rule", x.count(100), 0);
        c.due("back, place 0", x.back(0), true);
        c.due("doors", x.count(2), 2);
        c.due("undo goes on", x.undo(), 4);
        c.due("the image stays", x.back(0), true);
        c.due("doors", x.count(2), 2);
        c.due("the image of place 2 stays", x.back(2), true);
        c.due("doors", x.count(2), 3);
        x.undo();
        x.undo();
        c.due("over an image", x.image(2), true);
        x.back(0);
        x.back(2);
        c.due("doors", x.count(2), 1);
    }

    private static void imagesKeepAll() {
        DoorOffice x = start();
        Checks.tell(x, "rd road").shorten();
        Checks.tell(x, Checks.wholes(160)).row(0, 0);
        x.day(3);
        x.gone(1, 5);
        x.as(2);
        x.stop(0, 1);
        x.walk(0);
        Checks.letter(x, "elm 2, old", 0);
        x.sort();
        Checks.letter(x, "elm 1, old", 0);
        Checks.letter(x, "elm 2, old", 0);
        x.as(-1);
        Checks.call(x, "elm 2, old", 7);
        Checks.means(x, "elm 1, old", 7);
        x.twice(0, 0, 1);
        Checks.call(x, "elm", 0);
        x.as(2);
        x.image(1);
        x.write(0, 0, 0);
        x.as(-1);
        Checks.tell(x, "rd lane").shorten();
        Checks.tell(x, "st street").shorten();
        x.tear(0, 0, -1);
        x.day(90);
        x.stop(0, -1);
        x.walk(0);
        x.sort();
        Checks.means(x, "elm 9, old", 7);
        x.door(1, 0, 1, 0, 7);
        x.twice(0, 0, 1);
        x.gone(0, 50);
        Checks.call(x, "elm 1, old", 60);
        Checks.town(x, "far");
        Checks.tell(x, "12345");
        c.due("back", x.back(1), true);
        c.due("the tape stays", x.count(10), 5);
        c.due("OUT stays", Checks.out(x), "elm 1, old");
        int[] counts = {2, 3, 2, 6, 2, 3, 1, 1, 2, 1};
        for (int what = 0; what < counts.length; what++) {
            c.due("count(" + what + ")", x.count(what), counts[what]);
        }
        c.due("as known on 2", x.stands(1, 5), true);
        c.due("fault", x.fault(), 3);
        c.due("ended", x.ended(), 5);
        c.due("found", Checks.found(x), "0!");
        c.due("walked", Checks.walked(x), "0 1");
        c.due("sorted", Checks.sorted(x), "0>1");
        c.due("pairs", Checks.pairs(x), "");
        c.due("row", x.tear(0, 0, -1), 1);
        c.due("letters", x.sort(), 2);
        c.due("letters", Checks.sorted(x), "0>0 1>1");
        c.due("short form", Checks.town(x, "a rd"), 2);
        c.due("short form", Checks.town(x, "a road"), -5);
    }

    private static void roomForPapers() {
        DoorOffice x = Checks.withStreet(0);
        Checks.town(x, "new");
        x.door(0, 0, 1, 0, 0);
        Checks.street(x, "oak", 1, 0, 0);
        for (int i = x.count(3); i < 200; i++) {
            c.due("a paper", x.renumber(0, 0, 0), 0);
        }
        c.due("papers", x.count(3), 200);
        c.due("street", Checks.street(x, "ash", 0, 0, 0), -6);
        c.due("door", x.door(0, 0, 2, 0, 0), -6);
        c.due("corner", x.corner(0, 1, 0, 2, 0, 0), -6);
        c.due("under", x.under(2, 0, 0, 0), -6);
        c.due("gone", x.gone(0, 0), -6);
        c.due("renumber", x.renumber(0, 0, 0), -6);
        c.due("rename", Checks.rename(x, "ash", 0, 0), -6);
        c.due("join", x.join(0, 1, 0), -6);
        c.due("a second one is told first", Checks.rename(x, "elm", 0, 0), -5);
        c.due("none left is told first", x.door(0, 0, 0, 0, 0), -4);
        c.due("nothing changed", x.count(3), 200);
        c.due("nothing changed", x.stands(0, 9), true);
        c.due("undo", x.undo(), 199);
        c.due("room for one", x.gone(0, 0), 1);
        c.due("no room again", x.renumber(0, 0, 0), -6);
    }

    private static void roomForDoors() {
        DoorOffice x = Checks.withStreet(0);
        for (int i = 0; i < 99; i++) {
            x.door(0, i % 2, i, 0, 0);
        }
        c.due("the hundredth", x.under(2, 0, 0, 0), 99);
        c.due("one more under", x.under(4, 0, 1, 0), -6);
        c.due("one more", x.door(0, 0, 200, 0, 0), -6);
        c.due("a second one is told first", x.under(2, 0, 0, 0), -5);
        c.due("doors", x.count(2), 100);
        c.due("a door gone leaves no room", x.gone(98, 0), 1);
        c.due("one more", x.door(0, 0, 200, 0, 0), -6);
        c.due("but undo does", x.undo(), 101);
        x.undo();
        c.due("room for one", x.door(0, 1, 200, 0, 0), 99);
        c.due("a whole list", x.list(0), 600);
    }

    private static void roomForSpans() {
        DoorOffice x = Checks.withStreet(0);
        Checks.street(x, "oak", 0, 0, 0);
        for (int i = 0; i < 40; i++) {
            x.door(0, 1, i, 0, 0);
        }
        // All numbers of forty doors change each time: 40 spans and 74 times 40 are 3000.
        for (int i = 0; i < 74; i++) {
            c.due("renumber " + i, x.renumber(0, i % 2 == 0 ? 3 : 0, 0), 40);
        }
        c.due("spans", x.count(4), 3000);
        c.due("no room for numbers", x.renumber(0, 3, 0), -6);
        c.due("room for none", x.renumber(0, 0, 0), 0);
        c.due("no room for a door", x.door(0, 1, 90, 0, 0), -6);
        c.due("no room for a corner", x.corner(0, 1, 0, 90, 0, 0), -6);
        c.due("room for what has none", x.under(2, 0, 0, 0), 40);
        c.due("room for gone", x.gone(0, 0), 2);
        c.due("spans stay", x.count(4), 3000);
        x.undo();
        x.undo();
        x.undo();
        x.undo();
        c.due("forty are taken back", x.count(4), 2960);
        c.due("unknown again", x.number(0, 0, 0, 0), 0);
        c.due("one door", x.door(0, 1, 90, 0, 0), 40);
        c.due("41 do not go in", x.renumber(0, 0, 0), -6);
        c.due("nothing changed", x.count(4), 2961);
    }

    private static void rowsOfStreetsTakenBack() {
        DoorOffice x = Checks.withStreet(3);
        Checks.tell(x, Checks.wholes(160)).row(0, 0);
        x.undo();
        c.due("no such street", x.tear(0, 0, 0), -1);
        Checks.street(x, "oak", 0, 3, 0);
        c.due("never there for a new street", x.tear(0, 0, 0), -1);
    }
}

/** Promises 1 to 6, 43 and 44: a new object, the tape, OUT, the days, and what is counted. */
public final class TapeTest {
    private static final Checks c = new Checks();

    public static void main(String[] args) {
        newObject();
        feeding();
        ending();
        taking();
        days();
        asKnown();
        counting();
        c.finish();
    }

    private static void newObject() {
        DoorOffice x = new DoorOffice();
        c.due("NONE", DoorOffice.NONE, -1);
        for (int what = 0; what <= 10; what++) {
            c.due("new: count(" + what + ")", x.count(what), 0);
        }
        c.due("new: fault()", x.fault(), -1);
        c.due("new: ended()", x.ended(), -1);
        c.due("new: undo()", x.undo(), -1);
        c.due("new: found(0, 0)", x.found(0, 0), -1);
        c.due("new: pair(0, 0)", x.pair(0, 0), -1);
        c.due("new: walked(0)", x.walked(0), -1);
        c.due("new: sorted(0, 0)", x.sorted(0, 0), -1);
        c.due("new: out(0)", x.out(0), -1);
        c.due("new: take()", x.take(), 0);
        c.due("new: walk(0)", x.walk(0), 0);
        c.due("new: sort()", x.sort(), 0);
        c.due("new: list(0)", x.list(0), 0);
        c.due("new: check(0)", x.check(0), -1);
        c.due("new: back(0)", x.back(0), false);
        c.due("new: about(0, 0)", x.about(0, 0), -1);
        c.due("new: stands(0, 0)", x.stands(0, 0), false);
        c.due("new: near(0, 0, 0, 0)", x.near(0, 0, 0, 0), -1);
    }

    private static void feeding() {
        DoorOffice x = new DoorOffice();
        c.due("feed 1", x.feed(0, 0, 0, 0, 0), 20);
        for (int i = 2; i <= 60; i++) {
            c.due("feed " + i, x.feed(i, i, i, i, i), 20 * i);
        }
        c.due("feed 61", x.feed(1, 2, 3, 4, 5), -1);
        c.due("count(10) when full", x.count(10), 1200);
        x.end(1181);
        c.due("feed with 19 left", x.feed(1, 2, 3, 4, 5), -1);
        c.due("count(10) stays", x.count(10), 1181);
        x.end(1180);
        c.due("feed with 20 left", x.feed(1, 2, 3, 4, 5), 1200);
        // The highest byte of each number comes first: as a row of wholes they are seen again.
        DoorOffice y = Checks.withStreet(3);
        y.feed(0x00100020, 0x00300040, 0x00500060, 0x00700080, 0x009000a0);
        c.due("row of the fed", y.row(0, 0), 10);
        y.door(0, 0, 1, 0, 0);
        y.door(0, 0, 2, 0, 0);
        y.renumber(0, 3, 0);
        c.due("first whole fed", y.number(0, 0, 0, 0), 0x10);
        c.due("second whole fed", y.number(1, 0, 0, 0), 0x20);
        y.feed(0x8000ff01, 0, 0, 0, 0);
        y.end(2);
        y.row(0, 0);
        y.gone(1, 0);
        y.renumber(0, 3, 0);
        c.due("a byte above 127", y.number(0, 0, 0, 0), 0x8000);
    }

    private static void ending() {
        DoorOffice x = new DoorOffice();
        c.due("end(0) of none", x.end(0), true);
        c.due("end(1) of none", x.end(1), false);
        x.feed(1, 2, 3, 4, 5);
        c.due("end(21)", x.end(21), false);
        c.due("end(-1)", x.end(-1), false);
        c.due("end(least)", x.end(Integer.MIN_VALUE), false);
        c.due("count(10)", x.count(10), 20);
        c.due("end(20)", x.end(20), true);
        c.due("end(7)", x.end(7), true);
        c.due("count(10)", x.count(10), 7);
        c.due("end(8)", x.end(8), false);
    }

    private static void taking() {
        DoorOffice x = Checks.withStreet(0);
        x.door(0, 0, 1, 0, 0);
        x.write(0, 0, 0);
        Checks.tell(x, "some longer text that goes");
        c.due("take()", x.take(), 10);
        c.due("count(10)", x.count(10), 10);
        c.due("OUT stays", Checks.out(x), "elm 1, old");
        c.due("means of the taken", x.means(0), 1);
        c.due("take() again", x.take(), 10);
        c.due("out(0)", x.out(0), 'e');
        c.due("out(10)", x.out(10), -1);
        c.due("out(-1)", x.out(-1), -1);
        c.due("out(most)", x.out(Integer.MAX_VALUE), -1);
        c.due("a refused list", x.list(-1), -2);
        c.due("OUT stays", Checks.out(x), "elm 1, old");
    }

    private static void days() {
        DoorOffice x = new DoorOffice();
        c.due("day(0)", x.day(0), true);
        c.due("day(5)", x.day(5), true);
        c.due("day(4)", x.day(4), false);
        c.due("day(-1)", x.day(-1), false);
        c.due("count(5)", x.count(5), 5);
        c.due("day(109575)", x.day(109575), false);
        c.due("day(109574)", x.day(109574), true);
        c.due("count(5)", x.count(5), 109574);
        c.due("day(5)", x.day(5), false);
    }

    private static void asKnown() {
        DoorOffice x = Checks.withStreet(0);
        x.day(10);
        x.door(0, 0, 1, 0, 0);
        x.day(20);
        x.renumber(0, 1, 0);
        x.door(0, 0, 2, 0, 0);
        x.gone(0, 0);
        c.due("as(9)", x.as(9), true);
        c.due("stands, as known on 9", x.stands(0, 5), false);
        c.due("as(10)", x.as(10), true);
        c.due("stands, as known on 10", x.stands(0, 5), true);
        c.due("stands not yet, as known on 10", x.stands(1, 5), false);
        c.due("as(-2)", x.as(-2), false);
        c.due("as(109575)", x.as(109575), false);
        c.due("refused as() changes nothing", x.stands(0, 5), true);
        c.due("as(20)", x.as(20), true);
        c.due("gone, as known on 20", x.stands(0, 5), false);
        c.due("stands, as known on 20", x.stands(1, 5), true);
        c.due("as(0)", x.as(0), true);
        c.due("none, as known on 0", x.stands(1, 5), false);
        c.due("a paper asks of all papers", x.door(0, 0, 2, 0, 0), -5);
        c.due("free asks of all papers", x.free(0, 0, 2), -5);
        c.due("as(NONE)", x.as(-1), true);
        c.due("all papers are there", x.stands(1, 5), true);
        c.due("as(109574)", x.as(109574), true);
        c.due("all are known by the last day", x.stands(1, 5), true);
    }

    private static void counting() {
        DoorOffice x = Checks.withStreet(2);
        Checks.town(x, "new");
        Checks.street(x, "oak", 1, 3, 0);
        x.door(0, 0, 1, 0, 0);
        x.door(1, 0, 1, 0, 0);
        x.door(1, 0, 2, 0, 0);
        x.renumber(0, 1, 0);
        x.renumber(0, 2, 0);
        x.renumber(0, 0, 0);
        x.under(2, 0, 0, 0);
        x.stop(0, 0);
        x.stop(1, 0);
        x.stop(1, 2);
        Checks.letter(x, "oak 1, new", 0);
        Checks.means(x, "oak 1, new", 0);
        Checks.tell(x, "rd road").shorten();
        x.day(77);
        Checks.tell(x, "12345");
        int[] want = {2, 2, 4, 9, 3, 77, 1, 3, 1, 1, 5};
        for (int what = 0; what < want.length; what++) {
            c.due("count(" + what + ")", x.count(what), want[what]);
        }
        c.due("count(100)", x.count(100), 0);
        c.due("count(101)", x.count(101), 3);
        c.due("count(102)", x.count(102), -1);
        c.due("count(99)", x.count(99), -1);
        c.due("count(11)", x.count(11), -1);
        c.due("count(-1)", x.count(-1), -1);
        c.due("count(most)", x.count(Integer.MAX_VALUE), -1);
        c.due("count(least)", x.count(Integer.MIN_VALUE), -1);
        x.stop(0, -1);
        x.sort();
        c.due("count(7) none any more", x.count(7), 0);
        c.due("count(8) they went", x.count(8), 0);
    }
}

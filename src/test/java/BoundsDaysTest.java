/** Terms I: DAYS, what is KNOWN, SPANS, and which FROM is too early; each sentence has a test of its own. */
public final class BoundsDaysTest {
    private static final int LAST = 109574;
    private static final int NONE = DoorOffice.NONE;
    private static final Checks c = new Checks();

    /** A call with a day that is still open. */
    private interface Dated {
        int on(DoorOffice x, int day);
    }

    public static void main(String[] args) {
        daysOfPapers();
        daysOfQuestions();
        todayAtFirst();
        knownFromTodayOn();
        holdsFromAnyDay();
        spansOfNumbers();
        spansOfNamesAndTowns();
        spansClosedByLaterPapersAreOpen();
        allPapersAtFirst();
        spansWithoutADay();
        papersAskOpenSpans();
        papersAskAllPapers();
        fromBelowAnEarlierPaper();
        fromOfTheStreetItself();
        fromOfOtherStreets();
        fromOfCorners();
        fromOfJoins();
        joinsNotBelowThoseOnBothTowns();
        c.finish();
    }

    private static int asInt(boolean answer) {
        return answer ? 1 : 0;
    }

    /** Elm and oak in old, ash in new; door 0 in elm with back 2, door 1 in oak; a STOP in elm. */
    private static DoorOffice office() {
        DoorOffice x = Checks.withStreet(3);
        Checks.town(x, "new");
        Checks.street(x, "oak", 0, 3, 0);
        Checks.street(x, "ash", 1, 3, 0);
        x.door(0, 0, 10, 0, 0);
        x.door(1, 0, 10, 0, 0);
        x.under(2, 0, 0, 0);
        x.stop(0, 0);
        return x;
    }

    private static void dueByDays(String call, Dated asked, int refused, int answer) {
        int[] none = {-1, LAST + 1, -2, Integer.MIN_VALUE, Integer.MAX_VALUE};
        for (int day : none) {
            c.due(call + " on day " + day, asked.on(office(), day), refused);
        }
        c.due(call + " on the first day", asked.on(office(), 0), answer);
        c.due(call + " on the last day", asked.on(office(), LAST), answer);
    }

    private static void daysOfPapers() {
        c.sentence("DAYS are 0 .. 109574 (papers)");
        dueByDays("street", (x, d) -> Checks.street(x, "fir", 0, 0, d), -2, 3);
        dueByDays("door", (x, d) -> x.door(0, 0, 20, 0, d), -2, 3);
        dueByDays("corner", (x, d) -> x.corner(0, 1, 0, 20, 0, d), -2, 32);
        dueByDays("under", (x, d) -> x.under(4, 0, 1, d), -2, 3);
        dueByDays("gone", (x, d) -> x.gone(0, d), -2, 2);
        dueByDays("renumber", (x, d) -> x.renumber(0, 3, d), -2, 1);
        dueByDays("rename", (x, d) -> Checks.rename(x, "fir", 0, d), -2, 1);
        dueByDays("join", (x, d) -> x.join(0, 1, d), -2, 1);
    }

    private static void daysOfQuestions() {
        c.sentence("DAYS are 0 .. 109574 (questions)");
        dueByDays("day", (x, d) -> asInt(x.day(d)), 0, 1);
        dueByDays("as", (x, d) -> d == NONE ? 0 : asInt(x.as(d)), 0, 1);
        dueByDays("stands", (x, d) -> asInt(x.stands(0, d)), 0, 1);
        dueByDays("number, whole", (x, d) -> x.number(0, 0, d, 0), NONE, 16);
        dueByDays("number, from", (x, d) -> x.number(0, 0, d, 1), NONE, 0);
        dueByDays("write", (x, d) -> x.write(0, 0, d), NONE, 10);
        dueByDays("means", (x, d) -> Checks.means(x, "elm 1, old", d), -2, 1);
        dueByDays("call", (x, d) -> Checks.call(x, "elm 1, old", d), -2, 0);
        dueByDays("near", (x, d) -> x.near(0, 0, 0, d), NONE, 0);
        dueByDays("walk", (x, d) -> x.walk(d), -2, 2);
        dueByDays("letter", (x, d) -> Checks.letter(x, "elm 1, old", d), -2, 1);
        dueByDays("list", (x, d) -> x.list(d), -2, 12);
        dueByDays("check", (x, d) -> x.check(d), -2, 1000);
    }

    private static void todayAtFirst() {
        c.sentence("TODAY is one (0 at first)");
        DoorOffice x = new DoorOffice();
        c.due("count(5)", x.count(5), 0);
        Checks.town(x, "old");
        Checks.street(x, "elm", 0, 0, 0);
        x.door(0, 0, 10, 0, 0);
        x.as(0);
        c.due("what is laid is KNOWN from day 0 on", x.stands(0, 0), true);
    }

    /** Lays a paper on day 10 of office() and asks, AS KNOWN on the days around. */
    private static void dueKnown(String what, Dated laid, Dated asked, int before, int after) {
        DoorOffice x = office();
        x.day(10);
        c.due(what + " is laid", laid.on(x, 5) >= 0, true);
        x.day(11);
        int[][] knownAndDue = {{0, before}, {9, before}, {10, after}, {11, after}, {LAST, after}, {NONE, after}};
        for (int[] pair : knownAndDue) {
            x.as(pair[0]);
            c.due(what + " as known on " + pair[0], asked.on(x, 7), pair[1]);
            c.due(what + " as known on " + pair[0] + ", on its day", asked.on(x, 5), pair[1]);
            c.due(what + " as known on " + pair[0] + ", the day ahead", asked.on(x, 4), before);
        }
    }

    private static void knownFromTodayOn() {
        c.sentence("A PAPER is KNOWN from the TODAY on at which it is laid");
        dueKnown("door", (x, d) -> x.door(0, 0, 20, 0, d), (x, d) -> asInt(x.stands(3, d)), 0, 1);
        dueKnown("corner", (x, d) -> x.corner(0, 1, 0, 20, 0, d), (x, d) -> x.number(0, 1, d, 0), NONE, 32);
        dueKnown("corner", (x, d) -> x.corner(0, 1, 0, 20, 0, d), (x, d) -> x.near(1, 0, 20, d), 1, 0);
        dueKnown("under", (x, d) -> x.under(4, 0, 1, d), (x, d) -> asInt(x.stands(3, d)), 0, 1);
        dueKnown("gone", (x, d) -> x.gone(0, d), (x, d) -> asInt(x.stands(0, d)), 1, 0);
        dueKnown("gone", (x, d) -> x.gone(0, d), (x, d) -> asInt(x.stands(2, d)), 1, 0);
        dueKnown("gone", (x, d) -> x.gone(0, d), (x, d) -> x.list(d), 12, 6);
        dueKnown("renumber", (x, d) -> x.renumber(0, 3, d), (x, d) -> x.number(0, 0, d, 0), 16, 0);
        dueKnown("rename", (x, d) -> Checks.rename(x, "maple", 0, d), (x, d) -> x.write(0, 0, d), 10, 12);
        dueKnown("rename", (x, d) -> Checks.rename(x, "maple", 0, d),
            (x, d) -> Checks.means(x, "maple 1, old", d), 0, 1);
        dueKnown("join", (x, d) -> x.join(1, 0, d), (x, d) -> Checks.means(x, "elm 1, new", d), 0, 1);
        dueKnown("join", (x, d) -> x.join(1, 0, d), (x, d) -> Checks.means(x, "elm 1, old", d), 1, 0);
    }

    private static void holdsFromAnyDay() {
        c.sentence("and holds from a day FROM on (any day)");
        DoorOffice x = office();
        x.day(50);
        c.due("FROM long before TODAY", x.door(0, 0, 20, 0, 0), 3);
        c.due("it stands from there on", x.stands(3, 0), true);
        c.due("FROM long behind TODAY", x.door(0, 0, 30, 0, LAST), 4);
        c.due("it does not stand on the day ahead", x.stands(4, LAST - 1), false);
        c.due("it stands from there on", x.stands(4, LAST), true);
        x.as(50);
        c.due("it is KNOWN on the day on which it was laid", x.stands(4, LAST), true);
    }

    private static void spansOfNumbers() {
        c.sentence("SPANS of a door's NUMBER hold up to the day ahead of the FROM of that which closed it");
        DoorOffice x = Checks.withStreet(0);
        x.door(0, 0, 10, 48, 3);
        x.renumber(0, 0, 7);
        x.gone(0, 9);
        int[] wholes = {NONE, NONE, NONE, 48, 48, 48, 48, 16, 16, NONE, NONE};
        for (int day = 0; day < wholes.length; day++) {
            c.due("number on day " + day, x.number(0, 0, day, 0), wholes[day]);
            c.due("stands on day " + day, x.stands(0, day), wholes[day] != NONE);
        }
        c.due("closed by the renumbering", x.number(0, 0, 6, 2), 7);
        c.due("closed by gone", x.number(0, 0, 7, 2), 9);
        c.due("opened by the renumbering", x.number(0, 0, 8, 1), 7);
    }

    private static void spansOfNamesAndTowns() {
        c.sentence("SPANS of a street's NAME and its town hold up to the day ahead of the FROM of that which closed it");
        DoorOffice x = office();
        Checks.rename(x, "fir", 0, 5);
        x.join(1, 0, 8);
        String[] due = {"elm 1, old", "fir 1, old", "fir 1, new"};
        for (int day = 0; day < 12; day++) {
            x.write(0, 0, day);
            c.due("written on day " + day, Checks.out(x), due[day < 5 ? 0 : day < 8 ? 1 : 2]);
        }
    }

    private static void spansClosedByLaterPapersAreOpen() {
        c.sentence("PAPERS KNOWN later are not there: SPANS that they opened are not, those that they closed are open");
        DoorOffice x = Checks.withStreet(0);
        x.door(0, 0, 10, 48, 0);
        x.day(10);
        x.renumber(0, 0, 5);
        x.day(20);
        x.gone(0, 6);
        x.as(9);
        c.due("ahead of the renumbering: 3", x.number(0, 0, LAST, 0), 48);
        c.due("ahead of the renumbering: open", x.number(0, 0, 4, 2), NONE);
        x.as(19);
        c.due("behind it: 1", x.number(0, 0, LAST, 0), 16);
        c.due("behind it: 1 is open", x.number(0, 0, LAST, 2), NONE);
        c.due("behind it: 3 is closed", x.number(0, 0, 4, 2), 5);
        x.as(20);
        c.due("gone: 1 is closed", x.number(0, 0, 5, 2), 6);
        c.due("gone: none", x.number(0, 0, 6, 0), NONE);
    }

    private static void allPapersAtFirst() {
        c.sentence("(At first, and with as(NONE): all PAPERS are there.)");
        DoorOffice x = Checks.withStreet(0);
        x.day(LAST);
        x.door(0, 0, 10, 0, 0);
        c.due("at first", x.stands(0, 0), true);
        x.as(LAST - 1);
        c.due("as known on the day ahead", x.stands(0, 0), false);
        c.due("as(NONE)", x.as(NONE), true);
        c.due("with as(NONE)", x.stands(0, 0), true);
    }

    private static void spansWithoutADay() {
        c.sentence("Spans without a day hold on none");
        DoorOffice x = Checks.withStreet(3);
        Checks.town(x, "new");
        Checks.town(x, "far");
        x.door(0, 0, 10, 80, 5);
        Checks.tell(x, Checks.wholes(32)).row(0, 0);
        x.renumber(0, 3, 8);
        x.tear(0, 0, NONE);
        x.renumber(0, 3, 8);
        c.due("the day ahead", x.number(0, 0, 7, 0), 80);
        c.due("the number in between is passed over", x.number(0, 0, 8, 0), 0);
        c.due("and means nothing SURE", Checks.call(x, "elm 2, old", 9), NONE);
        Checks.rename(x, "oak", 0, 9);
        Checks.rename(x, "ash", 0, 9);
        c.due("the name in between", Checks.means(x, "oak 5, old", 9), 0);
        c.due("the name behind it", Checks.means(x, "ash 5, old", 9), 1);
        x.join(1, 0, 9);
        x.join(2, 1, 9);
        c.due("the town in between", Checks.means(x, "ash 5, new", 9), 0);
        c.due("the town behind it", Checks.means(x, "ash 5, far", 9), 1);
        x.door(0, 1, 10, 0, 9);
        x.gone(1, 9);
        c.due("a door without a day does not stand", x.stands(1, 9), false);
        c.due("nor on the day ahead", x.stands(1, 8), false);
        c.due("it has no number", x.number(1, 0, 9, 0), NONE);
        c.due("all are counted as spans of numbers", x.count(4), 4);
        c.due("a name without a day may be had again", Checks.street(x, "oak", 2, 0, 9), 1);
    }

    private static void papersAskOpenSpans() {
        c.sentence("What a PAPER asks it asks of open SPANS, however FROM lies to TODAY");
        DoorOffice x = office();
        x.day(100);
        x.door(0, 0, 20, 0, 500);
        c.due("what stands from 500 on only is in the way", x.door(0, 0, 20, 0, 500), -5);
        c.due("its number is had", x.door(0, 1, 20, 32, 500), -4);
        c.due("it may have a floor", x.under(4, 3, 1, 500), 4);
        c.due("it is gone from 600 on", x.gone(3, 600), 2);
        c.due("though it stands TODAY's day 550", x.stands(3, 550), true);
        c.due("it is gone for papers", x.gone(3, 600), -1);
        c.due("it can not be a corner", x.corner(3, 1, 0, 30, 0, 600), -1);
        c.due("nothing can be under it", x.under(4, 3, 2, 600), -1);
        c.due("its place is free", x.free(0, 0, 20), 32);
        c.due("its number is free", x.door(0, 0, 20, 32, 600), 5);
        Checks.rename(x, "fir", 1, 900);
        c.due("a name from 900 on is in the way TODAY", Checks.street(x, "fir", 0, 0, 100), -5);
        c.due("the one up to 899, too", Checks.street(x, "oak", 0, 0, 899), -5);
        c.due("but not from 900 on", Checks.street(x, "oak", 0, 0, 900), 3);
    }

    private static void papersAskAllPapers() {
        c.sentence("What a PAPER asks it asks of open SPANS, all PAPERS being there");
        DoorOffice x = office();
        x.day(10);
        x.door(0, 0, 20, 0, 0);
        x.gone(0, 0);
        Checks.rename(x, "fir", 1, 0);
        x.as(0);
        c.due("as known on day 0 the door is not there", x.stands(3, 0), false);
        c.due("but it is in the way", x.door(0, 0, 20, 0, 0), -5);
        c.due("and free() tells so", x.free(0, 0, 20), -5);
        c.due("as known on day 0 the other one stands", x.stands(0, 0), true);
        c.due("but it can not be gone again", x.gone(0, 0), -1);
        c.due("nor be a corner", x.corner(0, 1, 0, 20, 0, 0), -1);
        c.due("its number is free", x.free(0, 0, 10), 16);
        c.due("a name that is not known yet is in the way", Checks.street(x, "fir", 0, 0, 0), -5);
        c.due("one that is still known is not", Checks.street(x, "oak", 0, 0, 0), 3);
        x.day(20);
        x.join(1, 0, 0);
        x.as(15);
        c.due("a town is joined, though not as known", Checks.street(x, "yew", 0, 0, 0), -1);
        c.due("and is not joined again", x.join(0, 1, 0), -1);
        c.due("FROM of a paper that is not known counts", x.renumber(0, 3, 30), 1);
        c.due("FROM of a paper that is not known counts", x.door(0, 0, 90, 0, 29), -3);
    }

    /**
     * Each kind of paper on street 0 (elm), told twice with things of its own, so that one can be laid
     * behind any other. Doors 0, 1, 4, 5, 8, 9 are in elm, 2 and 3 in oak, 6, 7, 10, 11 in yew and, as corners, in elm.
     */
    private static DoorOffice manyDoors() {
        DoorOffice x = Checks.withStreet(3);
        Checks.town(x, "new");
        Checks.town(x, "far");
        Checks.street(x, "oak", 0, 3, 0);
        Checks.street(x, "yew", 0, 3, 0);
        int[] streets = {0, 0, 1, 1, 0, 0, 2, 2, 0, 0, 2, 2};
        for (int i = 0; i < streets.length; i++) {
            x.door(streets[i], 0, 10 * i, 0, 0);
        }
        for (int door : new int[] {6, 7, 10, 11}) {
            x.corner(door, 0, 1, 10 * door, 0, 0);
        }
        x.under(2, 4, 0, 0);
        x.under(2, 5, 0, 0);
        x.under(4, 4, 9, 0);
        x.under(4, 5, 9, 0);
        return x;
    }

    private static final int KINDS = 13;

    private static int lay(DoorOffice x, int kind, int nth, int from) {
        switch (kind) {
            case 0:
                return x.door(0, 0, 500 + nth, 0, from);
            case 1:
                return x.corner(nth, 1, 1, 500 + nth, 0, from);
            case 2:
                return x.corner(2 + nth, 0, 1, 500 + nth, 0, from);
            case 3:
                return x.under(4, 4 + nth, 1, from);
            case 4:
                return x.under(4, 6 + nth, 1, from);
            case 5:
                return x.under(3, 12 + nth, 1, from);
            case 6:
                return x.gone(8 + nth, from);
            case 7:
                return x.gone(10 + nth, from);
            case 8:
                return x.gone(14 + nth, from);
            case 9:
                return x.gone(12 + nth, from);
            case 10:
                return x.renumber(0, 3, from);
            case 11:
                return Checks.rename(x, nth == 0 ? "ash" : "fir", 0, from);
            default:
                return x.join(0, 1 + nth, from);
        }
    }

    private static void fromBelowAnEarlierPaper() {
        c.sentence("A PAPER on a street, or on a door of it or what is under that, must not have a FROM below that of"
            + " an earlier PAPER on that street, nor below that of a join() of its town");
        for (int first = 0; first < KINDS; first++) {
            for (int second = 0; second < KINDS; second++) {
                DoorOffice x = manyDoors();
                String what = "paper " + second + " behind paper " + first;
                c.due(what + ", the first", lay(x, first, 0, 10) >= 0, true);
                c.due(what + ", a day too early", lay(x, second, 1, 9), -3);
                c.due(what + ", on the same day", lay(x, second, 1, 10) >= 0, true);
            }
        }
    }

    private static void fromOfTheStreetItself() {
        c.sentence("A PAPER on a street must not have a FROM below that of an earlier PAPER: the street's own");
        for (int second : new int[] {0, 10, 11, 12}) {
            DoorOffice x = new DoorOffice();
            Checks.town(x, "old");
            Checks.town(x, "new");
            Checks.town(x, "far");
            Checks.street(x, "elm", 0, 3, 10);
            c.due("paper " + second + " a day too early", lay(x, second, 1, 9), -3);
            c.due("paper " + second + " on its first day", lay(x, second, 1, 10) >= 0, true);
        }
        DoorOffice x = Checks.withStreet(3);
        x.door(0, 0, 10, 0, 0);
        Checks.street(x, "oak", 0, 3, 10);
        c.due("a corner ahead of the second street", x.corner(0, 1, 0, 10, 0, 9), -3);
        c.due("a corner on the second street's first day", x.corner(0, 1, 0, 10, 0, 10), 16);
    }

    private static void fromOfOtherStreets() {
        c.sentence("A FROM may be below that of a PAPER on another street");
        for (int second = 0; second < KINDS - 1; second++) {
            DoorOffice x = manyDoors();
            Checks.street(x, "box", 0, 3, 50);
            x.door(3, 0, 10, 0, 60);
            x.join(1, 2, 70);
            c.due("paper " + second, lay(x, second, 0, 5) >= 0, true);
        }
        c.due("a new street beside one of a later day", Checks.street(manyDoors(), "box", 0, 0, 0), 3);
        DoorOffice x = manyDoors();
        x.door(1, 0, 500, 0, 50);
        x.corner(2, 2, 0, 500, 0, 51);
        x.under(2, 3, 0, 52);
        x.gone(3, 53);
        x.renumber(1, 0, 54);
        c.due("renamed", Checks.rename(x, "fir", 1, 55), 1);
        c.due("none of them was a paper on elm", x.renumber(0, 3, 1), 10);
    }

    private static void fromOfCorners() {
        c.sentence("(of a CORNER: on both its streets)");
        DoorOffice x = manyDoors();
        x.under(4, 6, 1, 10);
        c.due("under a corner: a paper on the first street", x.renumber(2, 3, 9), -3);
        c.due("under a corner: a paper on the second street", x.renumber(0, 3, 9), -3);
        c.due("but on no other", x.renumber(1, 3, 9), 2);
        x.gone(6, 20);
        c.due("gone: a paper on the first street", x.renumber(2, 3, 19), -3);
        c.due("gone: a paper on the second street", x.renumber(0, 3, 19), -3);
        DoorOffice y = manyDoors();
        y.renumber(2, 3, 10);
        c.due("a floor too early for the first street", y.under(4, 6, 1, 9), -3);
        c.due("gone too early for the first street", y.gone(6, 9), -3);
        DoorOffice z = manyDoors();
        z.renumber(1, 3, 10);
        c.due("a corner too early for its second street", z.corner(0, 1, 1, 500, 0, 9), -3);
        c.due("a floor is not yet on that street", z.under(4, 0, 1, 9), 16);
        c.due("a corner on the day", z.corner(0, 1, 1, 500, 0, 10), 16);
        c.due("a floor then is on both", z.under(4, 0, 2, 9), -3);
    }

    private static void fromOfJoins() {
        c.sentence("nor below that of a join() of its town");
        for (int kind = 0; kind < KINDS - 1; kind++) {
            DoorOffice x = manyDoors();
            x.join(1, 0, 10);
            c.due("paper " + kind + " in a town joined to another one, too early", lay(x, kind, 0, 9), -3);
            c.due("paper " + kind + " on the day", lay(x, kind, 0, 10) >= 0, true);
        }
        DoorOffice x = new DoorOffice();
        Checks.town(x, "old");
        Checks.town(x, "new");
        x.join(0, 1, 10);
        c.due("a new street too early", Checks.street(x, "elm", 0, 0, 9), -3);
        c.due("a new street on the day", Checks.street(x, "elm", 0, 0, 10), 0);
        DoorOffice y = manyDoors();
        Checks.street(y, "box", 1, 3, 0);
        y.join(1, 2, 10);
        c.due("a join of other towns does not matter", y.renumber(0, 3, 9), 10);
        c.due("a corner with a street of that town", y.corner(0, 3, 0, 10, 0, 9), -3);
        c.due("a corner on the day", y.corner(0, 3, 0, 10, 0, 10), 16);
    }

    private static void joinsNotBelowThoseOnBothTowns() {
        c.sentence("a join() not below those on both towns and all their streets");
        int[][] towns = {{0, 1}, {1, 0}};
        for (int[] ab : towns) {
            DoorOffice x = office();
            x.renumber(1, 3, 10);
            c.due("a street of the one town", x.join(ab[0], ab[1], 9), -3);
            c.due("a street of the one town, on the day", x.join(ab[0], ab[1], 10) >= 0, true);
            DoorOffice y = office();
            Checks.town(y, "far");
            y.join(1, 2, 10);
            c.due("a join of the one town", y.join(ab[0], ab[1], 9), -3);
            c.due("a join of the one town, on the day", y.join(ab[0], ab[1], 10) >= 0, true);
            DoorOffice z = office();
            Checks.town(z, "far");
            Checks.street(z, "fir", 2, 0, 50);
            c.due("a street of a third town does not matter", z.join(ab[0], ab[1], 0) >= 0, true);
            DoorOffice v = office();
            Checks.town(v, "far");
            Checks.town(v, "gap");
            v.renumber(0, 3, 60);
            c.due("the first street does not matter to other towns", v.join(1 + ab[0], 1 + ab[1], 5) >= 0, true);
            DoorOffice w = office();
            Checks.town(w, "far");
            Checks.town(w, "gap");
            w.join(0, 3, 70);
            c.due("a join of the first town does not matter to other towns", w.join(1 + ab[0], 1 + ab[1], 5) >= 0, true);
        }
    }
}

/** Promises 24 to 30: numbers on days, addresses written, what they mean and meant, and their faults. */
public final class AddressTest {
    private static final Checks c = new Checks();

    public static void main(String[] args) {
        numbers();
        writing();
        faults();
        meaningSure();
        meaningWithExtra();
        meaningLikely();
        likelyByGaps();
        likelyByRule();
        likelyAlongRing();
        likelyByPaces();
        likelyByPacesBehindGaps();
        meaningAsKnown();
        refusedMeanings();
        calls();
        callsWithExtra();
        c.finish();
    }

    private static void numbers() {
        DoorOffice x = Checks.withStreet(0);
        Checks.street(x, "oak", 0, 0, 0);
        x.door(0, 0, 10, 48, 5);
        x.under(2, 0, 0, 8);
        x.day(50);
        x.renumber(0, 0, 20);
        x.corner(0, 1, 1, 5, 0, 30);
        x.gone(0, 40);
        c.due("ahead", x.number(0, 0, 4, 0), -1);
        c.due("first", x.number(0, 0, 5, 0), 48);
        c.due("first, from", x.number(0, 0, 19, 1), 5);
        c.due("first, to", x.number(0, 0, 19, 2), 20);
        c.due("second", x.number(0, 0, 20, 0), 16);
        c.due("second, from", x.number(0, 0, 39, 1), 20);
        c.due("second, to", x.number(0, 0, 39, 2), 40);
        c.due("gone", x.number(0, 0, 40, 0), -1);
        c.due("gone, from", x.number(0, 0, 40, 1), -1);
        c.due("other place", x.number(0, 1, 30, 0), 32);
        c.due("other place ahead", x.number(0, 1, 29, 0), -1);
        c.due("other place, to", x.number(0, 1, 30, 2), 40);
        c.due("of a back: its front's", x.number(1, 0, 6, 0), 48);
        c.due("of a back: its front's second", x.number(1, 1, 35, 1), 30);
        x.as(49);
        c.due("as known: first", x.number(0, 0, 20, 0), 48);
        c.due("as known: open", x.number(0, 0, 20, 2), -1);
        c.due("as known: on the last day", x.number(0, 0, 109574, 0), 48);
        c.due("as known: no second place", x.number(0, 1, 30, 0), -1);
        x.as(-1);
        x.door(0, 0, 90, 0, 40);
        c.due("the next door", x.number(2, 0, 40, 0), 16);
        c.due("place 2 is not the next door", x.number(1, 2, 40, 0), -1);
        c.due("place 4 is not the next door but one", x.number(0, 4, 40, 0), -1);
        c.due("place -2 is not the door ahead", x.number(2, -4, 39, 0), -1);
        c.due("what 3", x.number(0, 0, 6, 3), -1);
        c.due("what -1", x.number(0, 0, 6, -1), -1);
        c.due("place 2", x.number(0, 2, 6, 0), -1);
        c.due("place -1", x.number(0, -1, 6, 0), -1);
        c.due("door 3", x.number(3, 0, 6, 0), -1);
        c.due("door -1", x.number(-1, 0, 6, 0), -1);
        c.due("day -1", x.number(0, 0, -1, 0), -1);
        c.due("day 109575", x.number(0, 0, 109575, 0), -1);
    }

    private static void writing() {
        DoorOffice x = new DoorOffice();
        Checks.town(x, "abcdefghijkl mnopqrstuvwx yzabcdefghij");
        Checks.street(x, "zzzzzzzzzzzz aaaaaaaaaaaa zazazazazaza", 0, 3, 0);
        Checks.street(x, "b", 0, 3, 0);
        x.door(0, 0, 10, 9999 * 16 + 9, 0);
        x.corner(0, 1, 0, 1, 10 * 16 + 8, 3);
        x.under(2, 0, 0, 4);
        x.under(3, 1, 99, 5);
        x.under(4, 0, 10, 6);
        c.due("door", x.write(0, 0, 3), 84);
        c.due("door", Checks.out(x), "zzzzzzzzzzzz aaaaaaaaaaaa zazazazazaza 9999+, abcdefghijkl mnopqrstuvwx yzabcdefghij");
        c.due("corner", x.write(0, 1, 3), 45);
        c.due("corner", Checks.out(x), "b 10h, abcdefghijkl mnopqrstuvwx yzabcdefghij");
        x.write(1, 1, 4);
        c.due("back", Checks.out(x), "b 10h back, abcdefghijkl mnopqrstuvwx yzabcdefghij");
        x.write(2, 1, 5);
        c.due("court", Checks.out(x), "b 10h court 99, abcdefghijkl mnopqrstuvwx yzabcdefghij");
        c.due("floor", x.write(3, 0, 6), 93);
        c.due("floor", Checks.out(x), "zzzzzzzzzzzz aaaaaaaaaaaa zazazazazaza 9999+ floor 10, abcdefghijkl mnopqrstuvwx yzabcdefghij");
        c.due("taken", x.take(), 93);
        c.due("read again", x.means(6), 1);
        c.due("read again", x.found(0, 0), 3);
        x.write(0, 1, 3);
        c.due("not a corner yet", x.write(0, 1, 2), -1);
        c.due("floor does not stand yet", x.write(3, 0, 5), -1);
        c.due("place 2", x.write(0, 2, 5), -1);
        c.due("place -1", x.write(0, -1, 5), -1);
        c.due("no door", x.write(4, 0, 5), -1);
        c.due("no door", x.write(-1, 0, 5), -1);
        c.due("no day", x.write(0, 0, -1), -1);
        c.due("no day", x.write(0, 0, 109575), -1);
        x.renumber(1, 3, 10);
        c.due("unknown", x.write(0, 1, 10), -1);
        c.due("unknown, of the back", x.write(1, 1, 10), -1);
        c.due("OUT stays", Checks.out(x), "b 10h, abcdefghijkl mnopqrstuvwx yzabcdefghij");
    }

    private static void dueFault(String text, int place) {
        DoorOffice x = new DoorOffice();
        Checks.town(x, "old");
        int answer = place < 0 ? 0 : -2;
        c.due("means '" + text + "'", Checks.means(x, text, 0), answer);
        c.due("fault of '" + text + "'", x.fault(), place);
        c.due("the tape went", x.count(10), 0);
        c.due("call '" + text + "'", Checks.call(x, text, 0), place < 0 ? -1 : -2);
        c.due("fault of '" + text + "'", x.fault(), place);
        c.due("letter '" + text + "'", Checks.letter(x, text, 0), place < 0 ? -1 : -2);
        c.due("fault of '" + text + "'", x.fault(), place);
    }

    private static void faults() {
        String right = "abcdefghijkl abcdefghijkl abcdefghijkl 1234h court 12, abcdefghijkl abcdefghijkl abcdefghijkl";
        dueFault(right, -1);
        // Each beginning is an address that ends too soon, but where a word of the town could end.
        for (int n = 0; n < right.length(); n++) {
            boolean isWhole = n > 55 && n != 68 && n != 81;
            dueFault(right.substring(0, n), isWhole ? -1 : n);
        }
        dueFault(right + " ", right.length());
        dueFault(right + "m", right.length());
        String[] texts = {"elm 1, old", "elm 1+, old", "elm 1a back, old", "elm 1 floor 1, old", "elm 1 floor 90, old"};
        for (String text : texts) {
            dueFault(text, -1);
        }
        dueFault(" elm 1, old", 0);
        dueFault("elm, old", 3);
        dueFault("1, old", 0);
        dueFault("elm1, old", 3);
        dueFault("elm , old", 4);
        dueFault(", old", 0);
        dueFault("elm 0, old", 4);
        dueFault("elm 1A, old", 5);
        dueFault("elm 1++, old", 6);
        dueFault("elm 1a1, old", 6);
        dueFault("elm 1ab, old", 6);
        dueFault("elm 1a+, old", 6);
        dueFault("elm 12345, old", 8);
        dueFault("elm 1  back, old", 6);
        dueFault("elm 1 backs, old", 10);
        dueFault("elm 1 back 1, old", 10);
        dueFault("elm 1 court, old", 11);
        dueFault("elm 1 court1, old", 11);
        dueFault("elm 1 court 01, old", 12);
        dueFault("elm 1 court 1a, old", 13);
        dueFault("elm 1 court 111, old", 14);
        dueFault("elm 1 flour 1, old", 9);
        dueFault("elm 1 door 1, old", 6);
        dueFault("elm 1,  old", 7);
        dueFault("elm 1, Old", 7);
        dueFault("elm 1, old\n", 10);
        dueFault("elm 1, a b c d", 12);
        dueFault("elm 1, a  b", 9);
        dueFault("a b c d 1, old", 6);
        dueFault("a b abcdefghijklm 1, old", 16);
        dueFault("elm\u00e4 1, old", 3);
    }

    private static void meaningSure() {
        DoorOffice x = Checks.withStreet(0);
        Checks.town(x, "new");
        Checks.street(x, "elm", 1, 0, 0);
        x.door(0, 0, 10, 0, 5);
        x.door(1, 0, 10, 0, 5);
        c.due("old", Checks.means(x, "elm 1, old", 5), 1);
        c.due("old", Checks.found(x), "0!");
        c.due("new", Checks.means(x, "elm 1, new", 5), 1);
        c.due("new", Checks.found(x), "1!");
        c.due("count(9)", x.count(9), 1);
        c.due("found(0, 2)", x.found(0, 2), -1);
        c.due("found(0, -1)", x.found(0, -1), -1);
        c.due("found(-1, 0)", x.found(-1, 0), -1);
        c.due("found(1, 1)", x.found(1, 1), -1);
        c.due("ahead", Checks.means(x, "elm 1, new", 4), 0);
        c.due("none found", x.found(0, 0), -1);
        c.due("another number", Checks.means(x, "elm 3, new", 5), 0);
        c.due("another letter", Checks.means(x, "elm 1a, new", 5), 0);
        c.due("another street", Checks.means(x, "elms 1, new", 5), 0);
        c.due("more words", Checks.means(x, "elm elm 1, new", 5), 0);
        c.due("another town", Checks.means(x, "elm 1, far", 5), 0);
        x.gone(0, 9);
        c.due("last day", Checks.means(x, "elm 1, old", 8), 1);
        c.due("gone", Checks.means(x, "elm 1, old", 9), 0);
        x.door(0, 0, 90, 16, 9);
        Checks.means(x, "elm 1, old", 9);
        c.due("another door with its number", Checks.found(x), "2!");
    }

    private static void meaningWithExtra() {
        DoorOffice x = Checks.withStreet(0);
        x.door(0, 0, 10, 0, 0);
        x.under(2, 0, 0, 5);
        x.under(3, 1, 7, 6);
        x.under(4, 0, 7, 7);
        c.due("back ahead", Checks.means(x, "elm 1 back, old", 4), 0);
        Checks.means(x, "elm 1 back, old", 5);
        c.due("back", Checks.found(x), "1!");
        Checks.means(x, "elm 1 court 7, old", 7);
        c.due("court", Checks.found(x), "2!");
        Checks.means(x, "elm 1 floor 7, old", 7);
        c.due("floor", Checks.found(x), "3!");
        c.due("no such floor", Checks.means(x, "elm 1 floor 8, old", 7), 0);
        x.gone(1, 9);
        c.due("court gone with the back", Checks.means(x, "elm 1 court 7, old", 9), 0);
        x.under(2, 0, 0, 9);
        Checks.means(x, "elm 1 back, old", 9);
        c.due("new back", Checks.found(x), "4!");
        Checks.means(x, "elm 1 back, old", 8);
        c.due("old back", Checks.found(x), "1!");
    }

    /** Left: 5 at 10, then unknown ones at 20 and 30 (with a back), 9 at 40, an unknown one at 50. */
    private static DoorOffice burnt(int rule) {
        DoorOffice x = Checks.withStreet(0);
        for (int paces = 10; paces <= 50; paces += 10) {
            x.door(0, 0, paces, 0, 0);
        }
        x.renumber(0, 3, 1);
        x.gone(0, 2);
        x.gone(3, 2);
        x.door(0, 0, 10, 80, 2);
        x.door(0, 0, 40, 144, 2);
        x.under(2, 2, 0, 3);
        x.renumber(0, rule, 1000);
        return x;
    }

    private static void meaningLikely() {
        DoorOffice x = burnt(3);
        c.due("7", Checks.means(x, "elm 7, old", 3), 2);
        c.due("7", Checks.found(x), "1 2");
        c.due("found(1, 1)", x.found(1, 1), 0);
        c.due("6a", Checks.means(x, "elm 6a, old", 3), 2);
        c.due("5a", Checks.means(x, "elm 5a, old", 3), 2);
        c.due("8+", Checks.means(x, "elm 8+, old", 3), 2);
        c.due("5 is sure", Checks.means(x, "elm 5, old", 3), 1);
        c.due("5 is sure", Checks.found(x), "5!");
        c.due("3: none ahead", Checks.means(x, "elm 3, old", 3), 0);
        c.due("11: the last", Checks.means(x, "elm 11, old", 3), 1);
        c.due("11: the last", Checks.found(x), "4");
        c.due("7 back", Checks.means(x, "elm 7 back, old", 3), 1);
        c.due("7 back", Checks.found(x), "7");
        c.due("7 back ahead of its day", Checks.means(x, "elm 7 back, old", 2), 0);
        c.due("5 back: one has that number", Checks.means(x, "elm 5 back, old", 3), 0);
        c.due("on the day of all unknown", Checks.means(x, "elm 5, old", 1), 5);
        c.due("on the day of all unknown", Checks.found(x), "0 1 2 3 4");
        c.due("a call is not likely", Checks.call(x, "elm 11, old", 3), -1);
        c.due("a letter is not likely", Checks.letter(x, "elm 11, old", 3), -1);
    }

    private static void likelyByGaps() {
        DoorOffice x = Checks.withStreet(3);
        int[][] places = {{0, 10}, {0, 20}, {0, 30}, {1, 5}, {1, 15}};
        for (int[] place : places) {
            x.door(0, place[0], place[1], 0, 0);
        }
        Checks.tell(x, Checks.wholes(16)).row(0, 0);
        Checks.tell(x, Checks.wholes(32)).row(0, 1);
        x.renumber(0, 3, 1);
        c.due("one of the right first", Checks.means(x, "elm 9, old", 1), 3);
        c.due("one of the right first", Checks.found(x), "4 1 2");
        x.door(0, 1, 25, 0, 1);
        c.due("it has 3", x.number(5, 0, 1, 0), 48);
        Checks.means(x, "elm 9, old", 1);
        c.due("the right ended", Checks.found(x), "1 2");
        Checks.means(x, "elm 2c, old", 1);
        c.due("in the right's gap, too", Checks.found(x), "4 1 2");
        x.gone(4, 2);
        x.gone(3, 2);
        x.gone(5, 2);
        x.door(0, 1, 7, 0, 2);
        x.door(0, 1, 9, 0, 2);
        Checks.tell(x, Checks.wholes(16)).row(0, 0);
        x.tear(0, 1, 0);
        x.renumber(0, 3, 3);
        Checks.means(x, "elm 9, old", 3);
        c.due("like gaps: left first", Checks.found(x), "1 2 6 7");
    }

    private static void likelyByRule() {
        DoorOffice x = Checks.withStreet(0);
        x.door(0, 0, 10, 0, 0);
        x.door(0, 1, 10, 0, 0);
        x.renumber(0, 3, 1);
        Checks.means(x, "elm 7, old", 1);
        c.due("as given: both sides", Checks.found(x), "0 1");
        x.renumber(0, 0, 5);
        Checks.means(x, "elm 7, old", 1);
        c.due("by sides now: odd", Checks.found(x), "0");
        Checks.means(x, "elm 8c, old", 1);
        c.due("by sides now: even", Checks.found(x), "1");
        x.undo();
        Checks.means(x, "elm 8c, old", 1);
        c.due("taken back: both sides", Checks.found(x), "0 1");
    }

    private static void likelyAlongRing() {
        DoorOffice x = Checks.withStreet(3);
        int[][] places = {{0, 10}, {0, 20}, {1, 20}, {1, 10}};
        for (int[] place : places) {
            x.door(0, place[0], place[1], 0, 0);
        }
        Checks.tell(x, Checks.wholes(16)).row(0, 0);
        Checks.tell(x, Checks.wholes(160)).row(0, 1);
        x.renumber(0, 3, 1);
        Checks.means(x, "elm 12, old", 1);
        c.due("along the sides", Checks.found(x), "1 2");
        x.renumber(0, 1, 5);
        c.due("round now: the right ends with 10", Checks.means(x, "elm 12, old", 1), 0);
        Checks.means(x, "elm 5, old", 1);
        c.due("round now: left, then right, one gap", Checks.found(x), "1 2");
        Checks.means(x, "elm 1a, old", 1);
        c.due("round now", Checks.found(x), "1 2");
    }

    private static void likelyByPaces() {
        DoorOffice x = Checks.withStreet(1);
        int[][] places = {{1, 20, 64}, {1, 0, 80}, {0, 9999, 32}, {1, 9999, 48}, {0, 0, 16}};
        for (int[] place : places) {
            x.door(0, place[0], place[1], place[2], 0);
        }
        c.due("all unknown", x.renumber(0, 3, 1), 5);
        Checks.means(x, "elm 3, old", 1);
        c.due("as given: the left is the smaller gap", Checks.found(x), "4 2 1 0 3");
        x.under(2, 0, 0, 1);
        x.under(2, 3, 0, 1);
        x.under(2, 4, 0, 1);
        c.due("all known", x.renumber(0, 1, 2), 5);
        Checks.means(x, "elm 3, old", 1);
        c.due("round now: the right by paces, rising", Checks.found(x), "4 2 1 0 3");
        Checks.means(x, "elm 3 back, old", 1);
        c.due("backs by the places of their fronts", Checks.found(x), "7 5 6");
        Checks.means(x, "elm 3, old", 2);
        c.due("known then", Checks.found(x), "3!");
    }

    private static void likelyByPacesBehindGaps() {
        DoorOffice x = Checks.withStreet(3);
        int[][] places = {{1, 10}, {1, 50}, {0, 10}, {1, 40}};
        for (int[] place : places) {
            x.door(0, place[0], place[1], 0, 0);
        }
        x.renumber(0, 3, 0);
        c.due("told", x.door(0, 1, 20, 32, 0), 4);
        c.due("told", x.door(0, 1, 30, 80, 0), 5);
        x.renumber(0, 1, 1);
        Checks.means(x, "elm 3, old", 0);
        c.due("the gap counts ahead of side and paces", Checks.found(x), "0 2 3 1");
        Checks.means(x, "elm 1, old", 0);
        c.due("one gap of the ring", Checks.found(x), "2 3 1");
    }

    private static void meaningAsKnown() {
        DoorOffice x = Checks.withStreet(0);
        x.door(0, 0, 10, 0, 0);
        x.day(10);
        Checks.rename(x, "oak", 0, 5);
        x.day(20);
        x.renumber(0, 3, 5);
        x.as(9);
        c.due("the old name", Checks.means(x, "elm 1, old", 7), 1);
        c.due("not the new one", Checks.means(x, "oak 1, old", 7), 0);
        x.as(10);
        c.due("not the old name", Checks.means(x, "elm 1, old", 7), 0);
        c.due("the old one ahead of its day", Checks.means(x, "elm 1, old", 4), 1);
        Checks.means(x, "oak 1, old", 7);
        c.due("the new one", Checks.found(x), "0!");
        x.as(20);
        Checks.means(x, "oak 1, old", 7);
        c.due("likely", Checks.found(x), "0");
        x.as(-1);
        Checks.means(x, "oak 1, old", 7);
        c.due("likely", Checks.found(x), "0");
    }

    private static void refusedMeanings() {
        DoorOffice x = Checks.withStreet(0);
        x.door(0, 0, 10, 0, 0);
        c.due("ahead of any", x.fault(), -1);
        Checks.means(x, "elm 1, old", 0);
        c.due("fault", Checks.means(x, "elm 1 old", 0), -2);
        c.due("its place", x.fault(), 6);
        c.due("FOUND stays", Checks.found(x), "0!");
        c.due("no day", Checks.means(x, "elm 1, old", -1), -2);
        c.due("no fault", x.fault(), -1);
        c.due("no day", Checks.means(x, "elm 3, old", 109575), -2);
        c.due("FOUND stays", Checks.found(x), "0!");
        c.due("the tape went", x.count(10), 0);
        c.due("call, no day", Checks.call(x, "elm 1, old", -1), -2);
        c.due("letter, no day", Checks.letter(x, "elm 1, old", 109575), -2);
        c.due("call, fault", Checks.call(x, "elm 1; old", 0), -2);
        c.due("its place", x.fault(), 5);
        c.due("letter", Checks.letter(x, "elm 1, old", 0), 1);
        c.due("no fault", x.fault(), -1);
        c.due("FOUND stays", Checks.found(x), "0!");
    }

    private static void calls() {
        DoorOffice x = Checks.withStreet(0);
        x.door(0, 0, 10, 0, 0);
        x.door(0, 0, 20, 0, 0);
        c.due("ahead of any", x.ended(), -1);
        c.due("sure", Checks.call(x, "elm 3, old", 0), 1);
        c.due("no such", Checks.call(x, "elm 5, old", 9), -1);
        c.due("ahead of any", x.ended(), -1);
        x.gone(0, 10);
        x.renumber(0, 0, 20);
        c.due("3 was that of door 1", Checks.call(x, "elm 3, old", 50), -101);
        c.due("ended", x.ended(), 20);
        c.due("1 is that of door 1", Checks.call(x, "elm 1, old", 20), 1);
        c.due("ended stays", x.ended(), 20);
        c.due("1 was that of door 0", Checks.call(x, "elm 1, old", 15), -100);
        c.due("ended", x.ended(), 10);
        c.due("1 was that of door 0, that day", Checks.call(x, "elm 1, old", 9), 0);
        x.day(5);
        Checks.rename(x, "oak", 0, 30);
        c.due("the old name", Checks.call(x, "elm 1, old", 30), -101);
        c.due("ended", x.ended(), 30);
        c.due("nothing old before the first day", Checks.call(x, "oak 1, old", 29), -1);
        c.due("ended stays", x.ended(), 30);
        x.as(4);
        c.due("as known: the name is right", Checks.call(x, "elm 1, old", 30), 1);
        x.as(-1);
        x.renumber(0, 3, 40);
        c.due("unknown now: it was door 1", Checks.call(x, "oak 1, old", 45), -101);
        c.due("ended", x.ended(), 40);
        c.due("the last day", Checks.call(x, "oak 1, old", 109574), -101);
        Checks.town(x, "new");
        x.join(1, 0, 60);
        c.due("the old town", Checks.call(x, "oak 1, old", 70), -101);
        c.due("its number ended first", x.ended(), 40);
    }

    private static void callsWithExtra() {
        DoorOffice x = Checks.withStreet(0);
        Checks.street(x, "oak", 0, 0, 0);
        x.door(0, 0, 10, 0, 0);
        x.corner(0, 1, 0, 10, 0, 2);
        x.under(2, 0, 0, 5);
        x.under(3, 1, 3, 6);
        x.gone(2, 9);
        c.due("court", Checks.call(x, "oak 1 court 3, old", 8), 2);
        c.due("court gone", Checks.call(x, "oak 1 court 3, old", 9), -102);
        c.due("ended", x.ended(), 9);
        c.due("court not yet", Checks.call(x, "oak 1 court 3, old", 5), -1);
        x.under(3, 1, 3, 12);
        c.due("between", Checks.call(x, "elm 1 court 3, old", 11), -102);
        c.due("new one", Checks.call(x, "elm 1 court 3, old", 12), 3);
        x.gone(0, 20);
        c.due("gone with all", Checks.call(x, "elm 1 court 3, old", 25), -103);
        c.due("ended", x.ended(), 20);
        c.due("gone with all", Checks.call(x, "oak 1, old", 25), -100);
        c.due("no such floor", Checks.call(x, "oak 1 floor 3, old", 25), -1);
        x.door(0, 0, 70, 0, 30);
        x.under(4, 4, 1, 30);
        x.gone(5, 31);
        c.due("for one day", Checks.call(x, "elm 1 floor 1, old", 40), -105);
        c.due("ended", x.ended(), 31);
    }
}

import java.util.function.Consumer;
import java.util.function.IntFunction;
import java.util.function.ToIntFunction;

/**
 * "Answers below 0 refuse ..": which of several comes first, that what is refused changes nothing, and that
 * texts of the tape go in any case, where it is asked.
 */
public final class BoundsRefusalsTest {
    private static final int NONE = DoorOffice.NONE;
    private static final int LAST = 109574;
    private static final Checks c = new Checks();

    /** A call that is wrong in those ways of a set of which the bits are set. */
    private interface Wrong {
        int in(DoorOffice x, int bits);
    }

    public static void main(String[] args) {
        theFirstOfSeveral();
        theFirstOfSeveralWithoutPapers();
        questionsChangeNothing();
        refusedTapeChangesNothing();
        refusedAddressesChangeNothing();
        textsGoInAnyCase();
        otherCallsLeaveTheTape();
        otherCallsLeaveOut();
        c.finish();
    }

    /** That of the twins, with an image that differs from what is there then. */
    private static void history(DoorOffice x) {
        x.image(0);
        Twins.history(x);
    }

    private static void fullHistory(DoorOffice x) {
        history(x);
        Checks.fillPapers(x, 3, 3, 0, 200);
    }

    private static int firstOf(int bits, int[] codes) {
        for (int i = 0; i < codes.length; i++) {
            if ((bits >> i & 1) == 1) {
                return codes[i];
            }
        }
        return 0;
    }

    /** For each set of ways to be wrong the first one answers, and a refused call has changed nothing. */
    private static void dueFirst(String call, IntFunction<String> texts, Wrong wrong, int... codes) {
        boolean hasRoom = codes[codes.length - 1] == -6;
        for (int bits = 0; bits < 1 << codes.length; bits++) {
            int set = bits;
            String text = texts.apply(bits);
            boolean isFull = hasRoom && bits >> codes.length - 1 == 1;
            Consumer<DoorOffice> told = x -> {
                if (isFull) {
                    fullHistory(x);
                } else {
                    history(x);
                }
                Checks.tell(x, text);
            };
            DoorOffice x = new DoorOffice();
            told.accept(x);
            int answer = wrong.in(x, set);
            String what = call + ", wrong in ways " + Integer.toBinaryString(set);
            c.due(what, Math.min(answer, 0), firstOf(set, codes));
            if (set != 0 && answer < 0) {
                Consumer<DoorOffice> instead = text.isEmpty() ? y -> { } : y -> y.end(0);
                c.due(what + " changes", Twins.difference(told, y -> wrong.in(y, set), instead), "");
            }
        }
    }

    private static boolean is(int bits, int way) {
        return (bits >> way & 1) == 1;
    }

    private static void theFirstOfSeveral() {
        c.sentence("Of several the first one of these. What is refused changes nothing (papers)");
        IntFunction<String> names = w -> is(w, 3) ? "elm" : "fir";
        dueFirst("street", names, (x, w) -> x.street(is(w, 0) ? 4 : 0, is(w, 1) ? 4 : 0, is(w, 2) ? 9 : 20), -1, -2, -3, -5, -6);
        dueFirst("street in a joined town", names, (x, w) -> x.street(is(w, 0) ? 3 : 0, 0, is(w, 1) ? -1 : is(w, 2) ? 9 : 20),
            -1, -2, -3, -5, -6);
        dueFirst("rename", names, (x, w) -> x.rename(is(w, 0) ? 4 : 1, is(w, 1) ? -1 : is(w, 2) ? 19 : 20), -1, -2, -3, -5, -6);
        IntFunction<String> texts = w -> is(w, 1) ? "Fir" : "fir";
        dueFirst("street of a wrong name", texts, (x, w) -> x.street(is(w, 0) ? -1 : 0, 0, is(w, 2) ? 9 : 20), -1, -2, -3, -6);
        dueFirst("rename to a wrong name", texts, (x, w) -> x.rename(is(w, 0) ? -1 : 1, is(w, 2) ? 19 : 20), -1, -2, -3, -6);
        IntFunction<String> noText = w -> "";
        // Ways 3 and 4 choose the place: none left between two doors, a door that stands there, or both.
        int[] paces = {30, 15, 20, 10};
        dueFirst("door", noText, (x, w) -> x.door(is(w, 0) ? 4 : 0, is(w, 1) ? 2 : 0, paces[w >> 3 & 3], 0, is(w, 2) ? 19 : 20),
            -1, -2, -3, -4, -5, -6);
        dueFirst("door told", noText, (x, w) -> x.door(is(w, 0) ? -1 : 0, 0, is(w, 4) ? 20 : 30,
            is(w, 1) ? 26 : is(w, 3) ? 32 : 48, is(w, 2) ? 0 : LAST), -1, -2, -3, -4, -5, -6);
        dueFirst("corner", noText, (x, w) -> x.corner(is(w, 0) ? 5 : 2, 1, 0, paces[w >> 3 & 3], is(w, 1) ? 15 : 0, is(w, 2) ? 19 : 20),
            -1, -2, -3, -4, -5, -6);
        dueFirst("under", noText, (x, w) -> x.under(4, is(w, 0) ? 6 : 0, is(w, 3) ? 3 : 4, is(w, 1) ? -1 : is(w, 2) ? 19 : 20),
            -1, -2, -3, -5, -6);
        dueFirst("gone", noText, (x, w) -> x.gone(is(w, 0) ? 8 : 0, is(w, 1) ? LAST + 1 : is(w, 2) ? 19 : 20), -1, -2, -3, -6);
        dueFirst("renumber", noText, (x, w) -> x.renumber(is(w, 0) ? 4 : 0, is(w, 3) ? 3 : 0, is(w, 1) ? -1 : is(w, 2) ? 19 : 20),
            -1, -2, -3, -4, -6);
        dueFirst("join", noText, (x, w) -> x.join(is(w, 0) ? 3 : 0, is(w, 3) ? 1 : 2, is(w, 1) ? -1 : is(w, 2) ? 19 : 30),
            -1, -2, -3, -5, -6);
    }

    private static void theFirstOfSeveralWithoutPapers() {
        c.sentence("Of several the first one of these. What is refused changes nothing (no papers)");
        for (String text : new String[] {"Old", "old", "fit"}) {
            Consumer<DoorOffice> fullTowns = x -> {
                history(x);
                for (String town : new String[] {"a", "b", "c", "d"}) {
                    Checks.town(x, town);
                }
                Checks.tell(x, text);
            };
            int due = text.equals("Old") ? -2 : text.equals("old") ? -5 : -6;
            dueRefused("town " + text, fullTowns, x -> x.town(), due, true);
        }
        for (String text : new String[] {"Elm", "elm x", "fit x"}) {
            Consumer<DoorOffice> fullForms = x -> {
                history(x);
                for (int i = 1; i < 20; i++) {
                    Checks.tell(x, "q" + (char) ('a' + i) + " q").shorten();
                }
                Checks.tell(x, text);
            };
            int due = text.equals("Elm") ? -2 : text.equals("elm x") ? -5 : -6;
            dueRefused("shorten " + text, fullForms, x -> x.shorten(), due, true);
        }
        Consumer<DoorOffice> three = x -> {
            history(x);
            Checks.tell(x, "abc");
        };
        dueRefused("row of no street", three, x -> x.row(4, 2), -1, true);
        dueRefused("row of no side", three, x -> x.row(0, 2), -2, true);
        dueRefused("row of odd bytes", three, x -> x.row(0, 0), -2, true);
        dueRefused("tear of no street", three, x -> x.tear(4, 0, -2), -1, false);
        dueRefused("tear of no side", three, x -> x.tear(0, 2, -2), -1, false);
        dueRefused("tear below NONE", three, x -> x.tear(0, 0, -2), -2, false);
        Consumer<DoorOffice> fullStops = x -> {
            history(x);
            for (int i = 2; i < 24; i++) {
                x.stop(i % 4, i % 3);
            }
        };
        dueRefused("stop in no street", fullStops, x -> x.stop(4, 3), -1, false);
        dueRefused("no stop in no street", fullStops, x -> x.stop(4, NONE), -1, false);
        dueRefused("stop by no way", fullStops, x -> x.stop(0, 3), -2, false);
        dueRefused("a stop too many", fullStops, x -> x.stop(0, 0), -6, false);
        dueRefused("undo of none", x -> Checks.town(x, "old"), x -> x.undo(), -1, false);
    }

    private static void dueRefused(String what, Consumer<DoorOffice> history, ToIntFunction<DoorOffice> call,
        int due, boolean isText) {
        DoorOffice x = new DoorOffice();
        history.accept(x);
        c.due(what, call.applyAsInt(x), due);
        Consumer<DoorOffice> instead = isText ? y -> y.end(0) : y -> { };
        c.due(what + " changes", Twins.difference(history, call::applyAsInt, instead), "");
    }

    private static void questionsChangeNothing() {
        c.sentence("What is refused changes nothing (questions)");
        Consumer<DoorOffice> told = x -> {
            history(x);
            Checks.tell(x, "abc");
        };
        dueRefused("day before TODAY", told, x -> x.day(24) ? 1 : 0, 0, false);
        dueRefused("day that is none", told, x -> x.day(LAST + 1) ? 1 : 0, 0, false);
        dueRefused("as a day that is none", told, x -> x.as(-2) ? 1 : 0, 0, false);
        dueRefused("feed with too many", x -> {
            history(x);
            for (int i = 0; i < 60; i++) {
                x.feed(i, i, i, i, i);
            }
        }, x -> x.feed(1, 1, 1, 1, 1), -1, false);
        dueRefused("end behind all", told, x -> x.end(4) ? 1 : 0, 0, false);
        dueRefused("end below 0", told, x -> x.end(-1) ? 1 : 0, 0, false);
        dueRefused("image in place 3", told, x -> x.image(3) ? 1 : 0, 0, false);
        dueRefused("back to no image", told, x -> x.back(1) ? 1 : 0, 0, false);
        dueRefused("back to place 3", told, x -> x.back(3) ? 1 : 0, 0, false);
        dueRefused("write of an address that is none", told, x -> x.write(0, 1, 20), -1, false);
        dueRefused("twice of no street", told, x -> x.twice(0, 0, 4), -1, false);
        dueRefused("twice of no town", told, x -> x.twice(1, 4, 0), -1, false);
        dueRefused("twice of one street", told, x -> x.twice(0, 1, 1), -2, false);
        dueRefused("twice of no kind", told, x -> x.twice(2, 0, 1), -2, false);
        dueRefused("free in no street", told, x -> x.free(4, 2, 0), -1, false);
        dueRefused("free on no side", told, x -> x.free(0, 2, 0), -2, false);
        dueRefused("free with none left, where a door stands", told, x -> x.free(0, 0, 10), -4, false);
        dueRefused("free where a door stands", told, x -> x.free(0, 0, 20), -5, false);
        dueRefused("walk on no day", told, x -> x.walk(-1), -2, false);
        dueRefused("list of no day", told, x -> x.list(LAST + 1), -2, false);
    }

    private static void refusedTapeChangesNothing() {
        c.sentence("What is refused changes nothing; texts of the tape go in any case (check)");
        Consumer<DoorOffice> told = x -> {
            history(x);
            x.list(20);
            x.take();
        };
        dueRefused("check on no day", told, x -> x.check(-1), -2, true);
    }

    private static void refusedAddressesChangeNothing() {
        c.sentence("What is refused changes nothing (addresses; FOUND stays)");
        String[] texts = {"elm 1, old", "elm 1 old", ""};
        for (String text : texts) {
            // The latest call for an address had the same fault, so that it is the same then.
            Consumer<DoorOffice> told = x -> {
                history(x);
                for (int i = 2; i < 60; i++) {
                    Checks.letter(x, "elm 1, old", 20);
                }
                Checks.call(x, text, LAST + 1);
                Checks.tell(x, text);
            };
            dueRefused("means '" + text + "' on no day", told, x -> x.means(-1), -2, true);
            dueRefused("call '" + text + "' on no day", told, x -> x.call(LAST + 1), -2, true);
            dueRefused("letter '" + text + "' on no day", told, x -> x.letter(-1), -2, true);
            if (!text.equals("elm 1, old")) {
                dueRefused("means '" + text + "'", told, x -> x.means(20), -2, true);
                dueRefused("call '" + text + "'", told, x -> x.call(20), -2, true);
                dueRefused("letter '" + text + "'", told, x -> x.letter(20), -2, true);
            } else {
                dueRefused("a letter too many", told, x -> x.letter(20), -6, true);
                dueRefused("a letter too many that means no door", told, x -> x.letter(4), -1, true);
            }
        }
    }

    private static void dueGone(String what, String text, ToIntFunction<DoorOffice> call, int answer) {
        DoorOffice x = new DoorOffice();
        history(x);
        Checks.tell(x, text);
        c.due(what, call.applyAsInt(x), answer);
        c.due(what + ": the tape", x.count(10), 0);
    }

    private static void textsGoInAnyCase() {
        c.sentence("texts of the tape go in any case, where it is asked");
        dueGone("town", "box", x -> x.town(), 4);
        dueGone("town -2", "Box", x -> x.town(), -2);
        dueGone("town -5", "old", x -> x.town(), -5);
        dueGone("shorten", "rd road", x -> x.shorten(), 2);
        dueGone("shorten -2", "rd", x -> x.shorten(), -2);
        dueGone("shorten -5", "elm x", x -> x.shorten(), -5);
        dueGone("street", "fir", x -> x.street(0, 0, 20), 4);
        dueGone("street -1", "fir", x -> x.street(9, 0, 20), -1);
        dueGone("street -2", "fir", x -> x.street(0, 9, 20), -2);
        dueGone("street -3", "fir", x -> x.street(0, 0, 9), -3);
        dueGone("street -5", "elm", x -> x.street(0, 0, 20), -5);
        dueGone("rename", "fir", x -> x.rename(0, 20), 1);
        dueGone("rename -1", "fir", x -> x.rename(9, 20), -1);
        dueGone("rename -2", "fir", x -> x.rename(0, -1), -2);
        dueGone("rename -3", "fir", x -> x.rename(0, 19), -3);
        dueGone("rename -5", "elm", x -> x.rename(0, 20), -5);
        dueGone("row", "ab", x -> x.row(0, 0), 1);
        dueGone("row -1", "ab", x -> x.row(9, 0), -1);
        dueGone("row -2", "abc", x -> x.row(0, 0), -2);
        dueGone("means", "elm 1, old", x -> x.means(20), 1);
        dueGone("means, none", "fir 1, old", x -> x.means(20), 0);
        dueGone("means -2", "elm 1,old", x -> x.means(20), -2);
        dueGone("means -2", "elm 1, old", x -> x.means(-1), -2);
        dueGone("call", "elm 1, old", x -> x.call(20), 0);
        dueGone("call, old", "ash 5, new", x -> x.call(40), -108);
        dueGone("call, none", "fir 1, old", x -> x.call(20), -1);
        dueGone("call -2", "elm 1,old", x -> x.call(20), -2);
        dueGone("call -2", "elm 1, old", x -> x.call(-1), -2);
        dueGone("letter", "elm 1, old", x -> x.letter(20), 3);
        dueGone("letter -1", "fir 1, old", x -> x.letter(20), -1);
        dueGone("letter -2", "elm 1,old", x -> x.letter(20), -2);
        dueGone("check", "", x -> x.check(0), 1008);
        dueGone("check, wrong", "abcdef", x -> x.check(0), 0);
        dueGone("check -2", "abcdef", x -> x.check(-1), -2);
        DoorOffice x = new DoorOffice();
        fullHistory(x);
        c.due("street -6", Checks.street(x, "fir", 0, 0, 20), -6);
        c.due("the tape", x.count(10), 0);
        c.due("rename -6", Checks.rename(x, "fir", 0, 20), -6);
        c.due("the tape", x.count(10), 0);
    }

    private static void otherCallsLeaveTheTape() {
        c.sentence("texts of the tape go ..., where it is asked: other calls leave it");
        DoorOffice x = new DoorOffice();
        history(x);
        Checks.tell(x, "elm 1, old");
        everyOtherCall(x);
        x.list(20);
        x.write(0, 0, 20);
        x.image(1);
        x.back(0);
        c.due("the tape has its bytes", x.count(10), 10);
        c.due("and they are what they were", x.means(20), 1);
        c.due("and they are what they were", x.fault(), NONE);
    }

    private static void otherCallsLeaveOut() {
        c.sentence("OUT is what write() and list() made it: other calls leave it");
        DoorOffice x = new DoorOffice();
        history(x);
        x.write(0, 0, 20);
        everyOtherCall(x);
        for (String text : new String[] {"box", "rd road", "fir", "elm 1, old"}) {
            Checks.tell(x, text).town();
            Checks.tell(x, text).shorten();
            Checks.tell(x, text).street(0, 0, 40);
            Checks.tell(x, text).rename(0, 40);
            Checks.tell(x, text).row(0, 1);
            Checks.tell(x, text).means(20);
            Checks.tell(x, text).call(20);
            Checks.tell(x, text).letter(20);
            Checks.tell(x, text).check(20);
        }
        x.take();
        x.image(1);
        x.back(0);
        c.due("OUT", Checks.out(x), "elm 1, old");
    }

    private static void everyOtherCall(DoorOffice x) {
        x.day(30);
        x.as(NONE);
        x.door(0, 0, 30, 0, 30);
        x.corner(2, 1, 0, 30, 0, 30);
        x.under(4, 0, 4, 30);
        x.gone(1, 30);
        x.renumber(0, 1, 30);
        x.join(0, 2, 30);
        x.tear(0, 0, 1);
        x.undo();
        x.image(0);
        x.back(0);
        x.about(0, 0);
        x.stands(0, 20);
        x.number(0, 0, 20, 0);
        x.fault();
        x.found(0, 0);
        x.ended();
        x.twice(0, 0, 1);
        x.pair(0, 0);
        x.free(0, 0, 35);
        x.near(0, 0, 35, 20);
        x.stop(0, 0);
        x.walk(20);
        x.walked(0);
        x.sort();
        x.sorted(0, 0);
        x.out(0);
        x.count(0);
    }
}

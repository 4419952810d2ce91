import java.nio.ByteBuffer;
import java.nio.charset.StandardCharsets;
import java.util.function.Consumer;
import java.util.function.Function;

/** Promises 19 to 21 once more: what is taken back, or gone back to, leaves nothing of what was there in between. */
public final class BoundsImagesTest {
    private static final Checks c = new Checks();

    public static void main(String[] args) {
        backFromAnotherHistory();
        backFromLess();
        backFromPapersTakenBack();
        imagesDoNotChange();
        undoLeavesNothing();
        undoOfCorners();
        imageOfAFullOffice();
        imageOfAFullDesk();
        c.finish();
    }

    /** The tape and OUT are no part of an image: they are made alike. */
    private static void alike(DoorOffice x) {
        x.end(0);
        x.list(0);
    }

    private static void backFromAnotherHistory() {
        c.sentence("21: All is as it was when an image was made (another office in between)");
        Consumer<DoorOffice> first = Twins::history;
        Consumer<DoorOffice> second = Twins::otherHistory;
        c.due("the other office behind the one", differenceOver(first, second), "");
        c.due("the one behind the other office", differenceOver(second, first), "");
    }

    private static String differenceOver(Consumer<DoorOffice> kept, Consumer<DoorOffice> between) {
        Consumer<DoorOffice> history = x -> {
            x.image(2);
            kept.accept(x);
            x.image(1);
        };
        Consumer<DoorOffice> awayAndBack = x -> {
            x.back(2);
            between.accept(x);
            x.back(1);
            alike(x);
        };
        return Twins.difference(history, awayAndBack, BoundsImagesTest::alike);
    }

    private static void backFromLess() {
        c.sentence("21: All is as it was when an image was made (nothing in between)");
        Consumer<DoorOffice> history = x -> {
            x.image(2);
            Twins.history(x);
            x.image(1);
        };
        Consumer<DoorOffice> awayAndBack = x -> {
            x.back(2);
            x.back(1);
            alike(x);
        };
        c.due("over an empty office", Twins.difference(history, awayAndBack, BoundsImagesTest::alike), "");
    }

    private static void backFromPapersTakenBack() {
        c.sentence("21: All is as it was when an image was made (papers taken back, and others laid)");
        Consumer<DoorOffice> history = x -> {
            Twins.history(x);
            x.image(1);
        };
        Consumer<DoorOffice> awayAndBack = x -> {
            while (x.undo() > 0) {
                x.as(DoorOffice.NONE);
            }
            Checks.street(x, "yew", 2, 2, 3);
            x.door(0, 1, 99, 0, 3);
            x.under(4, 0, 9, 3);
            Checks.rename(x, "box", 0, 4);
            x.gone(0, 5);
            x.back(1);
            alike(x);
        };
        c.due("others in their places", Twins.difference(history, awayAndBack, BoundsImagesTest::alike), "");
    }

    private static void imagesDoNotChange() {
        c.sentence("20: Place 0 .. 2 keeps an image: gone back to twice, it is the same");
        Consumer<DoorOffice> history = x -> {
            Twins.history(x);
            x.image(1);
        };
        Consumer<DoorOffice> twice = x -> {
            x.back(1);
            x.day(90);
            x.undo();
            x.undo();
            x.door(0, 0, 90, 0, 40);
            x.sort();
            x.stop(0, DoorOffice.NONE);
            x.walk(0);
            Checks.tell(x, "st steps").shorten();
            Checks.tell(x, Checks.wholes(16)).row(0, 0);
            x.back(1);
            alike(x);
        };
        c.due("changed in between", Twins.difference(history, twice, BoundsImagesTest::alike), "");
    }

    private static final int KINDS = 9;

    /** Papers that can be laid behind the first history; their days are those of no other paper. */
    private static int lay(DoorOffice x, int kind, int from) {
        switch (kind) {
            case 0:
                return Checks.street(x, "fir", 0, 2, from);
            case 1:
                return x.door(0, 0, 30, 0, from);
            case 2:
                return x.corner(2, 1, 1, 30, 0, from);
            case 3:
                return x.under(4, 0, 4, from);
            case 4:
                return x.gone(0, from);
            case 5:
                return x.renumber(0, 1, from);
            case 6:
                return x.renumber(1, 3, from);
            case 7:
                return Checks.rename(x, "fir", 0, from);
            default:
                return x.join(2, 0, from);
        }
    }

    private static void undoLeavesNothing() {
        c.sentence("19: The latest PAPER is taken back");
        for (int kind = 0; kind < KINDS; kind++) {
            for (int behind = 0; behind < KINDS; behind++) {
                int taken = kind;
                int next = behind;
                DoorOffice x = new DoorOffice();
                Twins.history(x);
                c.due("paper " + kind + " is laid", lay(x, kind, 36) >= 0, true);
                c.due("paper " + kind + " is taken back", x.undo(), 17);
                c.due("paper " + behind + " is laid then, on an earlier day", lay(x, behind, 33) >= 0, true);
                Consumer<DoorOffice> laidAndTaken = y -> {
                    lay(y, taken, 36);
                    y.undo();
                    lay(y, next, 33);
                    y.as(DoorOffice.NONE);
                    alike(y);
                };
                Consumer<DoorOffice> onlyTheNext = y -> {
                    lay(y, next, 33);
                    y.as(DoorOffice.NONE);
                    alike(y);
                };
                String what = "paper " + kind + " taken back ahead of paper " + behind;
                c.due(what, Twins.difference(Twins::history, laidAndTaken, onlyTheNext), "");
            }
        }
    }

    private static void undoOfCorners() {
        c.sentence("19: The latest PAPER is taken back: one of two corners");
        DoorOffice x = new DoorOffice();
        Twins.history(x);
        x.corner(2, 1, 1, 30, 0, 30);
        x.corner(0, 1, 1, 40, 0, 31);
        c.due("taken back", x.undo(), 18);
        c.due("the one is a corner", x.about(2, 0), 1);
        c.due("its paces", x.about(2, 7), 30);
        c.due("the other one is a door", x.about(0, 0), 0);
        for (int what = 5; what <= 7; what++) {
            c.due("without a second place", x.about(0, what), DoorOffice.NONE);
        }
        c.due("a corner again", x.corner(0, 1, 1, 40, 0, 30) > 0, true);
    }

    private static void imageOfAFullOffice() {
        c.sentence("20, 21: an image of all: of 8 towns, 24 streets, 100 doors, 200 papers, 24 stops");
        DoorOffice x = new DoorOffice();
        for (int i = 0; i < 8; i++) {
            Checks.town(x, "" + (char) ('a' + i));
        }
        for (int i = 0; i < 24; i++) {
            Checks.street(x, "" + (char) ('a' + i), i % 8, 3, 0);
            x.stop(i, i % 3);
        }
        for (int i = 0; i < 100; i++) {
            x.door(i % 24, i / 50, 10 * i, 0, 0);
        }
        x.feed(0x0010ffff, 0, 0, 0, 0);
        x.row(23, 1);
        for (int i = 0; i < 76; i++) {
            x.corner(i, i % 24 == 23 ? 0 : i % 24 + 1, 1, 9000 + i, 0, 0);
        }
        for (int i = 0; i < 40; i++) {
            // The letter is "x 1, h": the first door of the last street.
            x.feed(0x7820312c, 0x20680000, 0, 0, 0);
            x.end(6);
            x.letter(0);
        }
        x.walk(0);
        x.image(0);
        x.sort();
        x.stop(0, DoorOffice.NONE);
        for (int i = 0; i < 9; i++) {
            x.undo();
        }
        c.due("back", x.back(0), true);
        int[] due = {8, 24, 100, 200, 176, 0, 0, 24, 40};
        for (int what = 0; what < due.length; what++) {
            c.due("count(" + what + ")", x.count(what), due[what]);
        }
        c.due("the last street's rule", x.count(123), 3);
        c.due("the last row", x.tear(23, 1, 0), 10);
        c.due("the last door's paces", x.about(99, 4), 990);
        c.due("the last corner's paces", x.about(75, 7), 9075);
        c.due("all are walked", x.walk(0), 100);
        c.due("all are listed", x.list(0), 6 * 176);
    }

    private static final String[] LONG_NAMES = {"abcdefghia", "abcdefghib", "abcdefghic"};

    /** A letter of twenty bytes needs no end(), so that many fit into 512 calls. */
    private static void longLetter(DoorOffice x, int i) {
        byte[] text = (LONG_NAMES[i % 2] + " " + (10 + i * 7 % 25) + ", klmno").getBytes(StandardCharsets.ISO_8859_1);
        ByteBuffer numbers = ByteBuffer.wrap(text);
        x.feed(numbers.getInt(), numbers.getInt(), numbers.getInt(), numbers.getInt(), numbers.getInt());
        x.letter(0);
    }

    /** 100 doors walked, 24 stops, 50 letters sorted and 50 more, 50 doors found, 25 pairs. */
    private static void fullDesk(DoorOffice x) {
        Checks.town(x, "klmno");
        for (String name : LONG_NAMES) {
            Checks.street(x, name, 0, 3, 0);
        }
        for (int i = 0; i < 50; i++) {
            x.door(i / 25, 0, i, 160 + 16 * (i % 25), 0);
        }
        for (int i = 0; i < 50; i++) {
            x.door(2, i % 2, i, 0, 0);
        }
        x.renumber(2, 3, 0);
        for (int i = 0; i < 12; i++) {
            x.stop(i % 3, i % 3);
        }
        x.walk(0);
        for (int i = 0; i < 12; i++) {
            x.stop(i % 2, 2);
        }
        for (int i = 0; i < 50; i++) {
            longLetter(x, i);
        }
        x.sort();
        for (int i = 50; i > 0; i--) {
            longLetter(x, i);
        }
        Checks.means(x, LONG_NAMES[2] + " 7, klmno", 0);
        x.twice(0, 0, 1);
    }

    private static void otherDesk(DoorOffice x) {
        x.stop(0, DoorOffice.NONE);
        x.stop(1, 2);
        x.walk(0);
        x.sort();
        for (int i = 3; i < 9; i++) {
            longLetter(x, i);
        }
        x.sort();
        longLetter(x, 7);
        Checks.means(x, LONG_NAMES[1] + " 12, klmno", 0);
        x.twice(0, 1, 0);
    }

    private static void dueDesk(String what, int many, Function<DoorOffice, String> asked) {
        DoorOffice x = new DoorOffice();
        fullDesk(x);
        String before = asked.apply(x);
        c.due(what + ", how many", before.split(" ").length, many);
        DoorOffice y = new DoorOffice();
        fullDesk(y);
        y.image(0);
        otherDesk(y);
        y.back(0);
        c.due(what, asked.apply(y), before);
    }

    private static void imageOfAFullDesk() {
        c.sentence("21: All is as it was when an image was made: FOUND, PAIRS, STOPS, the walk, LETTERS, as they were SORTED");
        DoorOffice full = new DoorOffice();
        fullDesk(full);
        c.due("stops", full.count(7), 24);
        c.due("letters", full.count(8), 50);
        c.due("found", full.count(9), 50);
        full.stop(0, DoorOffice.NONE);
        c.due("a stop beside all that", full.stop(0, 1), 1);
        c.due("a walk beside all that", full.walk(0), 25);
        dueDesk("walked", 100, Checks::walked);
        dueDesk("sorted", 50, Checks::sorted);
        dueDesk("found", 50, Checks::found);
        dueDesk("pairs", 25, Checks::pairs);
        dueDesk("stops", 101, x -> x.count(7) + " " + x.walk(0) + Checks.walked(x));
        dueDesk("letters", 51, x -> x.sort() + " " + Checks.sorted(x));
    }
}

import java.util.List;
import java.util.function.Consumer;
import java.util.function.Function;

/**
 * Two offices with one history, of which one is asked for something that it refuses: whatever is asked of
 * them then, they answer alike. Each piece of the picture is asked of twins of its own, so that no object is
 * used for more than the 512 calls that the document promises.
 */
final class Twins {
    private static final int LAST = 109574;
    private static final int NONE = DoorOffice.NONE;
    private static final int[] DAYS = {0, 9, 20, 35, LAST};
    private static final String[] ADDRESSES = {"elm 1, old", "elm 2, old", "elm 3, old", "elm 1 back, old", "elm 1 court 1, old",
        "elm 1 floor 3, old", "elm 1 floor 4, old", "oak 1, old", "oak st 1, old", "ash 5, new", "elm 1, new", "fir 1, old",
        "elm 1, far", "st 1, old"};
    private static final List<Function<DoorOffice, String>> PICTURE = List.of(Twins::counts, Twins::abouts, Twins::numbers,
        Twins::desk, Twins::out, Twins::lists, Twins::writes, Twins::addresses, Twins::calls, Twins::walks, Twins::sorts,
        Twins::rows, Twins::taken, Twins::imaged, Twins::allKnown, Twins::places, Twins::names);

    private Twins() { }

    /** What differs between one that was refused and one that was not, or nothing. */
    static String difference(Consumer<DoorOffice> history, Consumer<DoorOffice> refused, Consumer<DoorOffice> instead) {
        for (Function<DoorOffice, String> piece : PICTURE) {
            DoorOffice x = new DoorOffice();
            history.accept(x);
            refused.accept(x);
            DoorOffice y = new DoorOffice();
            history.accept(y);
            instead.accept(y);
            String got = piece.apply(x);
            String want = piece.apply(y);
            if (!got.equals(want)) {
                return got + " instead of " + want;
            }
        }
        return "";
    }

    private static String counts(DoorOffice x) {
        StringBuilder text = new StringBuilder("counts");
        for (int what = -1; what < 12; what++) {
            text.append(' ').append(x.count(what));
        }
        for (int street = 0; street < 25; street++) {
            text.append(' ').append(x.count(100 + street));
        }
        return text.toString();
    }

    private static String abouts(DoorOffice x) {
        StringBuilder text = new StringBuilder("abouts");
        for (int door = 0; door < 11; door++) {
            for (int what = 0; what < 10; what++) {
                text.append(' ').append(x.about(door, what));
            }
            for (int day : DAYS) {
                text.append(' ').append(x.stands(door, day));
            }
        }
        return text.toString();
    }

    private static String numbers(DoorOffice x) {
        StringBuilder text = new StringBuilder("numbers");
        for (int door = 0; door < 11; door++) {
            for (int place = 0; place < 2; place++) {
                for (int day : DAYS) {
                    text.append(' ').append(x.number(door, place, day, 0));
                }
                text.append(' ').append(x.number(door, place, 20, 1)).append(' ').append(x.number(door, place, 20, 2));
            }
        }
        return text.toString();
    }

    private static String desk(DoorOffice x) {
        StringBuilder text = new StringBuilder("desk ").append(x.fault()).append(' ').append(x.ended());
        text.append(" found ").append(Checks.found(x)).append(" pairs ").append(Checks.pairs(x));
        return text.append(" walked ").append(Checks.walked(x)).append(" sorted ").append(Checks.sorted(x)).toString();
    }

    private static String out(DoorOffice x) {
        return "out " + Checks.out(x);
    }

    private static String lists(DoorOffice x) {
        StringBuilder text = new StringBuilder("lists");
        for (int day : DAYS) {
            text.append(' ').append(x.list(day));
        }
        x.list(35);
        return text.append(' ').append(Checks.out(x)).toString();
    }

    private static String writes(DoorOffice x) {
        StringBuilder text = new StringBuilder("writes");
        for (int door = 0; door < 11; door++) {
            for (int day : DAYS) {
                text.append(' ').append(x.write(door, 0, day)).append(' ').append(x.write(door, 1, day));
            }
        }
        return text.append(' ').append(Checks.out(x)).toString();
    }

    private static String addresses(DoorOffice x) {
        StringBuilder text = new StringBuilder("addresses");
        for (String address : ADDRESSES) {
            text.append(' ').append(Checks.means(x, address, 35)).append(' ').append(Checks.found(x));
        }
        return text.toString();
    }

    private static String calls(DoorOffice x) {
        StringBuilder text = new StringBuilder("calls");
        for (String address : ADDRESSES) {
            text.append(' ').append(Checks.call(x, address, LAST)).append(' ').append(x.ended());
        }
        return text.toString();
    }

    private static String walks(DoorOffice x) {
        return "walks " + x.walk(35) + " " + Checks.walked(x);
    }

    private static String sorts(DoorOffice x) {
        return "sorts " + x.sort() + " " + Checks.sorted(x);
    }

    private static String rows(DoorOffice x) {
        StringBuilder text = new StringBuilder("rows");
        for (int street = 0; street < 4; street++) {
            for (int side = 0; side < 2; side++) {
                text.append(' ').append(x.tear(street, side, Integer.MAX_VALUE));
            }
            text.append(' ').append(x.renumber(street, 3, LAST));
        }
        return text + numbers(x);
    }

    private static String taken(DoorOffice x) {
        return "taken " + x.undo() + " " + x.undo() + " " + x.undo() + " " + counts(x) + numbers(x);
    }

    private static String imaged(DoorOffice x) {
        return "imaged " + x.back(1) + " " + x.back(2) + " " + x.back(0) + " " + counts(x) + desk(x);
    }

    private static String allKnown(DoorOffice x) {
        x.as(NONE);
        return "all known " + numbers(x);
    }

    private static String places(DoorOffice x) {
        StringBuilder text = new StringBuilder("places");
        for (int street = 0; street < 4; street++) {
            for (int side = 0; side < 2; side++) {
                for (int paces = 0; paces <= 35; paces += 5) {
                    text.append(' ').append(x.free(street, side, paces));
                }
                text.append(' ').append(x.near(street, side, 17, 35));
            }
        }
        return text.append(' ').append(x.twice(0, 0, 1)).append(' ').append(x.twice(1, 0, 1)).toString();
    }

    /** Which names are there is told by which may be had, and which words are short forms by which may not be. */
    private static String names(DoorOffice x) {
        StringBuilder text = new StringBuilder("names");
        for (String name : new String[] {"elm", "oak", "oak street", "ash", "fir", "st"}) {
            text.append(' ').append(Checks.street(x, name, 0, 0, 40)).append(' ').append(Checks.town(x, name));
            text.append(' ').append(Checks.tell(x, name + " q").shorten());
        }
        return text.toString();
    }
}

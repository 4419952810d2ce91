import java.util.List;
import java.util.function.Consumer;
import java.util.function.Function;

/**
 * Two offices with one history, of which one is asked for something that it refuses: whatever is asked of
 * them then, they answer alike. Each piece of the picture is asked of twins of its own, so that no object is
 * used for more than the 512 calls that the document promises.
 */
final class Twins {
    private static final int LAST = 109574;
    private static final int NONE = DoorOffice.NONE;
    private static final int[] DAYS = {0, 9, 20, 35, LAST};
    private static final String[] ADDRESSES = {"elm 1, old", "elm 2, old", "elm 3, old", "elm 1 back, old", "elm 1 court 1, old",
        "elm 1 floor 3, old", "elm 1 floor 4, old", "oak 1, old", "oak st 1, old", "ash 5, new", "elm 1, new", "fir 1, old",
        "elm 1, far", "st 1, old"};
    private static final List<Function<DoorOffice, String>> PICTURE = List.of(Twins::counts, Twins::abouts, Twins::numbers,
        Twins::desk, Twins::out, Twins::lists, Twins::writes, Twins::addresses, Twins::calls, Twins::walks, Twins::sorts,
        Twins::rows, Twins::taken, Twins::earliest, Twins::earliestInTowns, Twins::imaged, Twins::allKnown, Twins::places,
        Twins::names);

    private Twins() { }

    /**
     * Towns old, new, far, and gap joined to old from 10 on; streets elm (by SIDES) and oak in old, ash and elm in new;
     * doors 0 to 2 in elm, 3 and 4 in oak from 20 on; back 5, court 6 and floor 7 under 0; 8 in ash, gone.
     */
    static void history(DoorOffice x) {
        for (String town : new String[] {"old", "new", "far", "gap"}) {
            Checks.town(x, town);
        }
        Checks.tell(x, "st street").shorten();
        Checks.street(x, "elm", 0, 0, 5);
        Checks.street(x, "oak street", 0, 3, 5);
        Checks.street(x, "ash", 1, 3, 0);
        Checks.street(x, "elm", 1, 3, 0);
        x.join(0, 3, 10);
        x.day(15);
        int[][] doors = {{0, 0, 10, 16}, {0, 0, 20, 17}, {0, 1, 10, 32}, {1, 0, 10, 16}, {1, 0, 20, 17}};
        for (int[] d : doors) {
            x.door(d[0], d[1], d[2], d[3], 20);
        }
        x.under(2, 0, 0, 20);
        x.under(3, 5, 1, 20);
        x.under(4, 0, 3, 20);
        x.corner(4, 0, 1, 90, 0, 20);
        x.door(2, 0, 10, 80, 0);
        x.gone(8, 30);
        x.renumber(2, 1, 30);
        Checks.tell(x, Checks.wholes(32, 16)).row(0, 0);
        Checks.tell(x, Checks.wholes(18, 35, 36)).row(1, 0);
        Checks.tell(x, Checks.wholes(512)).row(2, 1);
        Checks.tell(x, Checks.wholes(528, 544)).row(3, 1);
        x.stop(0, 2);
        x.stop(1, 0);
        x.walk(20);
        Checks.letter(x, "elm 1, old", 20);
        Checks.letter(x, "elm 2, old", 20);
        x.sort();
        Checks.letter(x, "elm 1a, old", 20);
        Checks.letter(x, "elm 1, old", 20);
        x.twice(0, 0, 1);
        Checks.call(x, "ash 5, new", 40);
        Checks.means(x, "elm 1 court 1, old", 20);
        x.write(6, 0, 20);
        x.day(25);
        x.as(20);
    }

    /** Another history, in which nothing stands where it does in the first one. */
    static void otherHistory(DoorOffice x) {
        for (String town : new String[] {"far", "box", "old"}) {
            Checks.town(x, town);
        }
        Checks.tell(x, "q oak").shorten();
        Checks.tell(x, "st stairs").shorten();
        x.day(3);
        Checks.street(x, "fir", 2, 3, 1);
        Checks.tell(x, Checks.wholes(160, 176, 192)).row(0, 1);
        x.door(0, 1, 70, 0, 2);
        x.under(4, 0, 8, 2);
        x.under(2, 0, 0, 2);
        Checks.street(x, "ash", 0, 2, 2);
        Checks.street(x, "ivy", 0, 3, 2);
        x.door(1, 0, 33, 0, 3);
        x.corner(3, 0, 0, 44, 800, 3);
        x.under(3, 2, 5, 4);
        x.door(0, 0, 5, 0, 4);
        x.door(0, 1, 80, 0, 4);
        x.door(0, 1, 90, 0, 4);
        x.under(2, 3, 0, 4);
        x.door(1, 1, 3, 0, 5);
        x.corner(9, 2, 0, 5, 0, 8);
        x.door(1, 1, 1, 32, 8);
        x.renumber(0, 3, 6);
        Checks.rename(x, "elm", 0, 7);
        Checks.rename(x, "yew", 0, 8);
        x.gone(1, 9);
        x.day(77);
        x.renumber(1, 1, 9);
        x.join(2, 1, 9);
        Checks.street(x, "oak street", 2, 0, 11);
        Checks.street(x, "elm", 0, 1, 11);
        Checks.street(x, "oak", 2, 3, 11);
        Checks.tell(x, Checks.wholes(17)).row(4, 0);
        Checks.tell(x, Checks.wholes(640, 656)).row(2, 1);
        Checks.tell(x, Checks.wholes(672, 688)).row(3, 1);
        x.door(3, 1, 90, 0, 11);
        x.door(3, 0, 95, 0, 11);
        x.door(4, 0, 90, 0, 11);
        x.door(4, 1, 91, 0, 11);
        x.corner(11, 4, 1, 10, 48, 12);
        for (int i = 0; i < 4; i++) {
            x.stop(4 - i, i % 3);
        }
        x.walk(20);
        for (String letter : new String[] {"ash 1, far", "ash 1 back, far", "oak street 2, old", "elm 1, far"}) {
            Checks.letter(x, letter, 20);
        }
        x.sort();
        for (String letter : new String[] {"yew 10, old", "ash 1, far", "elm 2, far"}) {
            Checks.letter(x, letter, 20);
        }
        x.twice(0, 3, 4);
        Checks.call(x, "yew 9, old", 50);
        Checks.call(x, "elm 10, old", 50);
        Checks.means(x, "yew 77, old", 20);
        Checks.letter(x, "ash 1", 20);
        x.as(5);
    }

    /** What differs between one that was refused and one that was not, or nothing. */
    static String difference(Consumer<DoorOffice> history, Consumer<DoorOffice> refused, Consumer<DoorOffice> instead) {
        for (Function<DoorOffice, String> piece : PICTURE) {
            DoorOffice x = new DoorOffice();
            history.accept(x);
            refused.accept(x);
            DoorOffice y = new DoorOffice();
            history.accept(y);
            instead.accept(y);
            String got = piece.apply(x);
            String want = piece.apply(y);
            if (!got.equals(want)) {
                return got + " instead of " + want;
            }
        }
        return "";
    }

    private static String counts(DoorOffice x) {
        StringBuilder text = new StringBuilder("counts");
        for (int what = -1; what < 12; what++) {
            text.append(' ').append(x.count(what));
        }
        for (int street = 0; street < 25; street++) {
            text.append(' ').append(x.count(100 + street));
        }
        return text.toString();
    }

    private static String abouts(DoorOffice x) {
        StringBuilder text = new StringBuilder("abouts");
        for (int door = 0; door < 11; door++) {
            for (int what = 0; what < 10; what++) {
                text.append(' ').append(x.about(door, what));
            }
            for (int day : DAYS) {
                text.append(' ').append(x.stands(door, day));
            }
        }
        return text.toString();
    }

    private static String numbers(DoorOffice x) {
        StringBuilder text = new StringBuilder("numbers");
        for (int door = 0; door < 11; door++) {
            for (int place = 0; place < 2; place++) {
                for (int day : DAYS) {
                    text.append(' ').append(x.number(door, place, day, 0));
                }
                text.append(' ').append(x.number(door, place, 20, 1)).append(' ').append(x.number(door, place, 20, 2));
            }
        }
        return text.toString();
    }

    private static String desk(DoorOffice x) {
        StringBuilder text = new StringBuilder("desk ").append(x.fault()).append(' ').append(x.ended());
        text.append(" found ").append(Checks.found(x)).append(" pairs ").append(Checks.pairs(x));
        return text.append(" walked ").append(Checks.walked(x)).append(" sorted ").append(Checks.sorted(x)).toString();
    }

    private static String out(DoorOffice x) {
        return "out " + Checks.out(x);
    }

    private static String lists(DoorOffice x) {
        StringBuilder text = new StringBuilder("lists");
        for (int day : DAYS) {
            text.append(' ').append(x.list(day));
        }
        x.list(35);
        return text.append(' ').append(Checks.out(x)).toString();
    }

    private static String writes(DoorOffice x) {
        StringBuilder text = new StringBuilder("writes");
        for (int door = 0; door < 11; door++) {
            for (int day : new int[] {20, 35}) {
                text.append(' ').append(x.write(door, 0, day)).append(' ').append(x.write(door, 1, day));
            }
        }
        return text.append(' ').append(Checks.out(x)).toString();
    }

    private static String addresses(DoorOffice x) {
        StringBuilder text = new StringBuilder("addresses");
        for (String address : ADDRESSES) {
            text.append(' ').append(Checks.means(x, address, 35)).append(' ').append(Checks.found(x));
        }
        return text.toString();
    }

    private static String calls(DoorOffice x) {
        StringBuilder text = new StringBuilder("calls");
        for (String address : ADDRESSES) {
            text.append(' ').append(Checks.call(x, address, LAST)).append(' ').append(x.ended());
        }
        return text.toString();
    }

    private static String walks(DoorOffice x) {
        return "walks " + x.walk(35) + " " + Checks.walked(x);
    }

    private static String sorts(DoorOffice x) {
        return "sorts " + x.sort() + " " + Checks.sorted(x);
    }

    /** Each row is read by a door more on its side; that of elm is made right by a tear. */
    private static String rows(DoorOffice x) {
        StringBuilder text = new StringBuilder("rows");
        for (int street = 0; street < 4; street++) {
            for (int side = 0; side < 2; side++) {
                text.append(' ').append(x.tear(street, side, Integer.MAX_VALUE));
                text.append(' ').append(x.door(street, side, 500, 0, LAST));
            }
            x.tear(0, 0, 1);
            text.append(' ').append(x.renumber(street, 3, LAST));
        }
        x.as(NONE);
        for (int door = 0; door < 25; door++) {
            text.append(' ').append(x.number(door, 0, LAST, 0)).append(' ').append(x.number(door, 1, LAST, 0));
        }
        return text.toString();
    }

    private static String taken(DoorOffice x) {
        StringBuilder text = new StringBuilder("taken");
        for (int i = 0; i < 30; i++) {
            text.append(' ').append(x.undo()).append(' ').append(x.count(1)).append(' ').append(x.count(2));
            text.append(' ').append(x.count(4)).append(' ').append(x.count(100 + i % 3));
        }
        return text.toString();
    }

    /** The first day on which a paper may be laid on each street. */
    private static String earliest(DoorOffice x) {
        StringBuilder text = new StringBuilder("earliest");
        for (int day : new int[] {0, 1, 5, 8, 9, 10, 11, 12, 19, 20, 29, 30, 34, 35, 37}) {
            for (int street = 0; street < 5; street++) {
                text.append(' ').append(x.door(street, 0, 10, 0, day));
            }
        }
        return text.toString();
    }

    /** The first day from which each town may have another street. */
    private static String earliestInTowns(DoorOffice x) {
        StringBuilder text = new StringBuilder("earliest in towns");
        for (int day : new int[] {0, 8, 9, 10, 37}) {
            for (int town = 0; town < 5; town++) {
                text.append(' ').append(Checks.street(x, "zed", town, 0, day));
            }
        }
        return text.toString();
    }

    private static String imaged(DoorOffice x) {
        return "imaged " + x.back(1) + " " + x.back(2) + " " + x.back(0) + " " + counts(x) + desk(x);
    }

    private static String allKnown(DoorOffice x) {
        x.as(NONE);
        return "all known " + numbers(x);
    }

    private static String places(DoorOffice x) {
        StringBuilder text = new StringBuilder("places");
        for (int street = 0; street < 4; street++) {
            for (int side = 0; side < 2; side++) {
                for (int paces = 0; paces <= 35; paces += 5) {
                    text.append(' ').append(x.free(street, side, paces));
                }
                text.append(' ').append(x.near(street, side, 17, 35));
            }
        }
        return text.append(' ').append(x.twice(0, 0, 1)).append(' ').append(x.twice(1, 0, 1)).toString();
    }

    /** Which names are there is told by which may be had, and which words are short forms by which may not be. */
    private static String names(DoorOffice x) {
        StringBuilder text = new StringBuilder("names");
        for (String name : new String[] {"elm", "oak", "oak street", "ash", "fir", "st"}) {
            text.append(' ').append(Checks.street(x, name, 0, 0, 40)).append(' ').append(Checks.town(x, name));
            text.append(' ').append(Checks.tell(x, name + " q").shorten());
        }
        return text.toString();
    }
}

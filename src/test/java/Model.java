import java.util.ArrayList;
import java.util.Arrays;
import java.util.Comparator;
import java.util.List;
import java.util.Map;
import java.util.TreeMap;
import java.util.regex.Matcher;
import java.util.regex.Pattern;

/**
 * The document once more, told as slowly as can be: papers are kept, and for each question the world
 * is made anew from those that are known. Texts are told directly, without the tape.
 */
final class Model {
    static final int LAST = 109574;
    static final Pattern ADDRESS = Pattern.compile("([a-z]{1,12}(?: [a-z]{1,12}){0,2}) ([1-9][0-9]{0,3})([a-h+]?)"
        + "(?: (back|court ([1-9][0-9]?)|floor ([1-9][0-9]?)))?, ([a-z]{1,12}(?: [a-z]{1,12}){0,2})");
    static final Pattern NAME = Pattern.compile("[a-z]{1,12}( [a-z]{1,12}){0,2}");
    static final Pattern PAIR = Pattern.compile("[a-z]{1,12} [a-z]{1,12}");

    /** One paper, with the numbers that it gave, found when it was laid. */
    static final class Paper {
        String kind;
        int[] args;
        String name;
        int from;
        int known;
        List<int[]> numbers = new ArrayList<>();
    }

    static final class Span {
        int from;
        int to = LAST + 1;
        String name;
        int value;

        Span(int from, String name, int value) {
            this.from = from;
            this.name = name;
            this.value = value;
        }

        boolean on(int day) {
            return from <= day && day < to;
        }

        boolean open() {
            return to == LAST + 1;
        }
    }

    static final class Door {
        int id;
        int sort;
        int over = -1;
        int k;
        Span stands;
        int[][] place = {null, null};
        List<List<Span>> numbers = List.of(new ArrayList<>(), new ArrayList<>());
    }

    static final class Street {
        int rule;
        int last;
        List<Span> names = new ArrayList<>();

        Span open() {
            return names.get(names.size() - 1);
        }
    }

    static final class World {
        List<Street> streets = new ArrayList<>();
        List<Door> doors = new ArrayList<>();
        int[] joinedTo = new int[8];
        int[] joinDay = new int[8];
        int spans;

        World() {
            Arrays.fill(joinedTo, -1);
        }

        Door front(Door d) {
            return d.over < 0 ? d : front(doors.get(d.over));
        }
    }

    /** A door's place in a street, with the number there. */
    record At(Door door, int place, int side, int paces, int whole) { }

    List<String> towns = new ArrayList<>();
    Map<String, String> shorts = new TreeMap<>();
    List<Paper> papers = new ArrayList<>();
    Map<Integer, List<Integer>> rows = new TreeMap<>();
    int today;
    int known = -1;
    int fault = -1;
    int ended = -1;
    List<int[]> found = new ArrayList<>();
    List<int[]> pairs = new ArrayList<>();
    List<int[]> stops = new ArrayList<>();
    List<Integer> walked = new ArrayList<>();
    List<Integer> letters = new ArrayList<>();
    List<int[]> sorted = new ArrayList<>();
    byte[] out = new byte[0];
    Model[] images = new Model[3];

    void set(Model m) {
        towns = new ArrayList<>(m.towns);
        shorts = new TreeMap<>(m.shorts);
        papers = new ArrayList<>(m.papers);
        rows = new TreeMap<>(m.rows);
        today = m.today;
        known = m.known;
        fault = m.fault;
        ended = m.ended;
        found = new ArrayList<>(m.found);
        pairs = new ArrayList<>(m.pairs);
        stops = new ArrayList<>(m.stops);
        walked = new ArrayList<>(m.walked);
        letters = new ArrayList<>(m.letters);
        sorted = new ArrayList<>(m.sorted);
    }

    // ---- the world

    World all() {
        return world(-1);
    }

    World then() {
        return world(known);
    }

    private World world(int asKnown) {
        World w = new World();
        for (Paper p : papers) {
            if (asKnown == -1 || p.known <= asKnown) {
                apply(w, p);
            }
        }
        return w;
    }

    private void apply(World w, Paper p) {
        int[] a = p.args;
        switch (p.kind) {
            case "street" -> {
                Street s = new Street();
                s.rule = a[1];
                s.names.add(new Span(p.from, p.name, a[0]));
                s.last = p.from;
                w.streets.add(s);
            }
            case "door" -> {
                Door d = add(w, 0, -1, 0, p.from);
                d.place[0] = new int[] {a[0], a[1], a[2]};
                touch(w, d, p.from);
            }
            case "corner" -> {
                Door d = w.doors.get(a[0]);
                d.sort = 1;
                d.place[1] = new int[] {a[1], a[2], a[3]};
                touch(w, d, p.from);
            }
            case "under" -> touch(w, add(w, a[0], a[1], a[2], p.from), p.from);
            case "gone" -> {
                touch(w, w.doors.get(a[0]), p.from);
                for (Door d : w.doors) {
                    if (d.stands.open() && isIn(w, d, a[0])) {
                        d.stands.to = p.from;
                        for (List<Span> spans : d.numbers) {
                            if (!spans.isEmpty()) {
                                spans.get(spans.size() - 1).to = p.from;
                            }
                        }
                    }
                }
            }
            case "renumber" -> {
                w.streets.get(a[0]).rule = a[1];
                w.streets.get(a[0]).last = p.from;
            }
            case "rename" -> {
                Street s = w.streets.get(a[0]);
                int town = s.open().value;
                s.open().to = p.from;
                s.names.add(new Span(p.from, p.name, town));
                s.last = p.from;
            }
            case "join" -> {
                w.joinedTo[a[1]] = a[0];
                w.joinDay[a[0]] = p.from;
                w.joinDay[a[1]] = p.from;
                for (Street s : w.streets) {
                    if (s.open().value == a[1]) {
                        String name = s.open().name;
                        s.open().to = p.from;
                        s.names.add(new Span(p.from, name, a[0]));
                    }
                }
            }
            default -> throw new IllegalStateException(p.kind);
        }
        for (int[] n : p.numbers) {
            List<Span> spans = w.doors.get(n[0]).numbers.get(n[1]);
            if (!spans.isEmpty()) {
                spans.get(spans.size() - 1).to = p.from;
            }
            spans.add(new Span(p.from, null, n[2]));
            w.spans++;
        }
    }

    private Door add(World w, int sort, int over, int k, int from) {
        Door d = new Door();
        d.id = w.doors.size();
        d.sort = sort;
        d.over = over;
        d.k = k;
        d.stands = new Span(from, null, 0);
        w.doors.add(d);
        return d;
    }

    private boolean isIn(World w, Door d, int top) {
        return d.id == top || d.over >= 0 && isIn(w, w.doors.get(d.over), top);
    }

    private void touch(World w, Door d, int from) {
        for (int[] place : w.front(d).place) {
            if (place != null) {
                w.streets.get(place[0]).last = from;
            }
        }
    }

    /** The doors of a street on a day (-1: by open spans), by sides, then paces. */
    private List<At> doorsOf(World w, int street, int day) {
        List<At> list = new ArrayList<>();
        for (Door d : w.doors) {
            for (int place = 0; place < 2; place++) {
                if (d.place[place] != null && d.place[place][0] == street) {
                    for (Span s : d.numbers.get(place)) {
                        if (day == -1 ? s.open() : s.on(day)) {
                            list.add(new At(d, place, d.place[place][1], d.place[place][2], s.value));
                        }
                    }
                }
            }
        }
        list.sort(Comparator.comparingInt((At a) -> a.side).thenComparingInt(a -> a.paces));
        return list;
    }

    /** The lines along which numbers rise: each side, or the ring. */
    private List<List<At>> lines(List<At> doors, int rule) {
        List<At> left = new ArrayList<>();
        List<At> right = new ArrayList<>();
        for (At a : doors) {
            (a.side == 0 ? left : right).add(a);
        }
        if (rule != 1) {
            return List.of(left, right);
        }
        java.util.Collections.reverse(right);
        left.addAll(right);
        return List.of(left);
    }

    private static boolean day(int d) {
        return d >= 0 && d <= LAST;
    }

    private int earliest(World w, int street) {
        Street s = w.streets.get(street);
        return Math.max(s.last, w.joinDay[s.open().value]);
    }

    private int earliestOfDoor(World w, int door) {
        int e = 0;
        for (int[] place : w.front(w.doors.get(door)).place) {
            e = place == null ? e : Math.max(e, earliest(w, place[0]));
        }
        return e;
    }

    private Paper paper(String kind, int from, String name, int... args) {
        Paper p = new Paper();
        p.kind = kind;
        p.from = from;
        p.known = today;
        p.name = name;
        p.args = args;
        papers.add(p);
        return p;
    }

    private String full(String name) {
        List<String> words = new ArrayList<>();
        for (String word : name.split(" ")) {
            words.add(shorts.getOrDefault(word, word));
        }
        return String.join(" ", words);
    }

    // ---- papers

    int town(String text) {
        if (!NAME.matcher(text).matches()) {
            return -2;
        }
        if (towns.contains(full(text))) {
            return -5;
        }
        if (towns.size() == 8) {
            return -6;
        }
        towns.add(full(text));
        return towns.size() - 1;
    }

    int shorten(String text) {
        if (!PAIR.matcher(text).matches()) {
            return -2;
        }
        String[] pair = text.split(" ");
        List<String> names = new ArrayList<>(towns);
        for (Street s : all().streets) {
            for (Span n : s.names) {
                names.add(n.name);
            }
        }
        for (String name : names) {
            if (List.of(name.split(" ")).contains(pair[0])) {
                return -5;
            }
        }
        if (!shorts.containsKey(pair[0]) && shorts.size() == 20) {
            return -6;
        }
        shorts.put(pair[0], pair[1]);
        return shorts.size();
    }

    private boolean held(World w, int town, String name, int from) {
        for (Street s : w.streets) {
            for (Span n : s.names) {
                if (n.value == town && n.name.equals(name) && Math.max(n.from, from) < n.to) {
                    return true;
                }
            }
        }
        return false;
    }

    int street(String text, int town, int rule, int from) {
        World w = all();
        if (town < 0 || town >= towns.size() || w.joinedTo[town] >= 0) {
            return -1;
        }
        if (!NAME.matcher(text).matches() || rule < 0 || rule > 3 || !day(from)) {
            return -2;
        }
        if (from < w.joinDay[town]) {
            return -3;
        }
        if (held(w, town, full(text), from)) {
            return -5;
        }
        if (w.streets.size() == 24 || papers.size() == 200) {
            return -6;
        }
        rows.remove(2 * w.streets.size());
        rows.remove(2 * w.streets.size() + 1);
        paper("street", from, full(text), town, rule);
        return w.streets.size();
    }

    private static boolean place(int side, int paces) {
        return (side == 0 || side == 1) && paces >= 0 && paces <= 9999;
    }

    private static boolean whole(int whole) {
        return whole >= 16 && whole <= 159993 && whole % 16 <= 9;
    }

    private int number(World w, int street, int side, int paces, int told) {
        int rule = w.streets.get(street).rule;
        List<At> doors = doorsOf(w, street, -1);
        boolean taken = false;
        for (At a : doors) {
            taken |= a.side == side && a.paces == paces;
        }
        // The place itself stands in its line as a door without a whole.
        List<At> with = new ArrayList<>();
        for (At a : doors) {
            if (a.side != side || a.paces != paces) {
                with.add(a);
            }
        }
        At here = new At(null, 0, side, paces, 0);
        with.add(here);
        with.sort(Comparator.comparingInt((At a) -> a.side).thenComparingInt(a -> a.paces));
        int[] gap = null;
        for (List<At> line : lines(with, rule)) {
            if (line.contains(here)) {
                gap = gap(line, line.indexOf(here));
            }
        }
        int best = -1;
        for (int letter = 9; letter >= 0; letter--) {
            for (int digits = 9999; digits >= 1; digits--) {
                int n = 16 * digits + letter;
                boolean fits = n > gap[0] && n < gap[1]
                    && (rule != 0 || digits % 2 == 1 - side)
                    && (rule != 2 || digits == 2 * (paces / 10) + 1 + side);
                if (fits) {
                    boolean had = false;
                    for (At a : doors) {
                        had |= a.whole == n;
                    }
                    if (!had) {
                        best = n;
                        if (n == told) {
                            return taken ? -5 : told;
                        }
                    }
                }
            }
        }
        if (best == -1 || told != 0) {
            return -4;
        }
        return taken ? -5 : best;
    }

    /** Low, high, and how many in the gap are unknown. */
    private static int[] gap(List<At> line, int i) {
        int[] gap = {0, 160000, 0};
        int a = i;
        while (a >= 0 && line.get(a).whole == 0) {
            a--;
        }
        int b = i;
        while (b < line.size() && line.get(b).whole == 0) {
            b++;
        }
        gap[0] = a < 0 ? 0 : line.get(a).whole;
        gap[1] = b == line.size() ? 160000 : line.get(b).whole;
        gap[2] = b - a - 1;
        return gap;
    }

    int door(int street, int side, int paces, int told, int from) {
        World w = all();
        if (street < 0 || street >= w.streets.size()) {
            return -1;
        }
        if (!place(side, paces) || told != 0 && !whole(told) || !day(from)) {
            return -2;
        }
        if (from < earliest(w, street)) {
            return -3;
        }
        int n = number(w, street, side, paces, told);
        if (n < 0) {
            return n;
        }
        if (w.doors.size() == 100 || papers.size() == 200 || w.spans == 3000) {
            return -6;
        }
        paper("door", from, null, street, side, paces).numbers.add(new int[] {w.doors.size(), 0, n});
        return w.doors.size();
    }

    private static boolean open(World w, int door) {
        return door >= 0 && door < w.doors.size() && w.doors.get(door).stands.open();
    }

    int corner(int door, int street, int side, int paces, int told, int from) {
        World w = all();
        if (street < 0 || street >= w.streets.size() || !open(w, door) || w.doors.get(door).sort != 0) {
            return -1;
        }
        int first = w.doors.get(door).place[0][0];
        if (first == street || !place(side, paces) || told != 0 && !whole(told) || !day(from)) {
            return -2;
        }
        if (from < earliest(w, street) || from < earliest(w, first)) {
            return -3;
        }
        int n = number(w, street, side, paces, told);
        if (n < 0) {
            return n;
        }
        if (papers.size() == 200 || w.spans == 3000) {
            return -6;
        }
        paper("corner", from, null, door, street, side, paces).numbers.add(new int[] {door, 1, n});
        return n;
    }

    int under(int sort, int door, int k, int from) {
        World w = all();
        if (!open(w, door)) {
            return -1;
        }
        int over = w.doors.get(door).sort;
        if (sort == 3 && over != 2 || (sort == 2 || sort == 4) && over > 1) {
            return -1;
        }
        if (sort < 2 || sort > 4 || !day(from) || (sort == 2 ? k != 0 : k < 1 || k > 99)) {
            return -2;
        }
        if (from < earliestOfDoor(w, door)) {
            return -3;
        }
        for (Door d : w.doors) {
            if (d.stands.open() && d.over == door && d.sort == sort && d.k == k) {
                return -5;
            }
        }
        if (w.doors.size() == 100 || papers.size() == 200) {
            return -6;
        }
        paper("under", from, null, sort, door, k);
        return w.doors.size();
    }

    int gone(int door, int from) {
        World w = all();
        if (!open(w, door)) {
            return -1;
        }
        if (!day(from)) {
            return -2;
        }
        if (from < earliestOfDoor(w, door)) {
            return -3;
        }
        if (papers.size() == 200) {
            return -6;
        }
        int n = 0;
        for (Door d : w.doors) {
            n += d.stands.open() && isIn(w, d, door) ? 1 : 0;
        }
        paper("gone", from, null, door);
        return n;
    }

    int renumber(int street, int rule, int from) {
        World w = all();
        if (street < 0 || street >= w.streets.size()) {
            return -1;
        }
        if (rule < 0 || rule > 3 || !day(from)) {
            return -2;
        }
        if (from < earliest(w, street)) {
            return -3;
        }
        List<At> doors = doorsOf(w, street, -1);
        List<int[]> numbers = new ArrayList<>();
        List<Integer> got = new ArrayList<>();
        for (List<At> line : lines(doors, rule)) {
            for (int i = 0; i < line.size(); i++) {
                At a = line.get(i);
                int n = 0;
                if (rule == 0) {
                    n = 16 * (2 * i + 1 + a.side);
                } else if (rule == 1) {
                    n = 16 * (i + 1);
                } else if (rule == 2) {
                    n = 16 * (2 * (a.paces / 10) + 1 + a.side);
                    for (int j = 0; j < i; j++) {
                        n += line.get(j).paces / 10 == a.paces / 10 ? 1 : 0;
                    }
                } else {
                    List<Integer> row = rows.get(2 * street + a.side);
                    if (row != null && i < row.size()) {
                        n = row.get(i);
                        if (!whole(n) || got.contains(n) || i > 0 && row.get(i - 1) >= n) {
                            return -4;
                        }
                        got.add(n);
                    }
                }
                if (n != a.whole) {
                    numbers.add(new int[] {a.door.id, a.place, n});
                }
            }
        }
        if (papers.size() == 200 || w.spans + numbers.size() > 3000) {
            return -6;
        }
        paper("renumber", from, null, street, rule).numbers.addAll(numbers);
        return numbers.size();
    }

    int rename(String text, int street, int from) {
        World w = all();
        if (street < 0 || street >= w.streets.size()) {
            return -1;
        }
        if (!NAME.matcher(text).matches() || !day(from)) {
            return -2;
        }
        if (from < earliest(w, street)) {
            return -3;
        }
        if (held(w, w.streets.get(street).open().value, full(text), from)) {
            return -5;
        }
        if (papers.size() == 200) {
            return -6;
        }
        paper("rename", from, full(text), street);
        return 1;
    }

    int join(int a, int b, int from) {
        World w = all();
        for (int t : new int[] {a, b}) {
            if (t < 0 || t >= towns.size() || w.joinedTo[t] >= 0) {
                return -1;
            }
        }
        if (a == b || !day(from)) {
            return -2;
        }
        int earliest = Math.max(w.joinDay[a], w.joinDay[b]);
        int moved = 0;
        boolean two = false;
        for (Street s : w.streets) {
            int t = s.open().value;
            if (t == a || t == b) {
                earliest = Math.max(earliest, s.last);
                moved += t == b ? 1 : 0;
                two |= t == b && held(w, a, s.open().name, from);
            }
        }
        if (from < earliest) {
            return -3;
        }
        if (two) {
            return -5;
        }
        if (papers.size() == 200) {
            return -6;
        }
        paper("join", from, null, a, b);
        return moved;
    }

    int row(byte[] bytes, int street, int side) {
        if (street < 0 || street >= all().streets.size()) {
            return -1;
        }
        if (side < 0 || side > 1 || bytes.length % 2 != 0) {
            return -2;
        }
        List<Integer> row = new ArrayList<>();
        for (int i = 0; i < bytes.length; i += 2) {
            row.add((bytes[i] & 255) * 256 + (bytes[i + 1] & 255));
        }
        rows.put(2 * street + side, row);
        return row.size();
    }

    int tear(int street, int side, int n) {
        if (street < 0 || street >= all().streets.size() || side < 0 || side > 1) {
            return -1;
        }
        if (n < -1) {
            return -2;
        }
        List<Integer> row = rows.get(2 * street + side);
        if (row == null) {
            return -1;
        }
        if (n == -1) {
            rows.remove(2 * street + side);
        } else if (n < row.size()) {
            rows.put(2 * street + side, new ArrayList<>(row.subList(0, n)));
        }
        return row.size();
    }

    int undo() {
        if (papers.isEmpty()) {
            return -1;
        }
        papers.remove(papers.size() - 1);
        return papers.size();
    }

    boolean image(int place) {
        if (place < 0 || place > 2) {
            return false;
        }
        images[place] = new Model();
        images[place].set(this);
        return true;
    }

    boolean back(int place) {
        if (place < 0 || place > 2 || images[place] == null) {
            return false;
        }
        set(images[place]);
        return true;
    }

    // ---- questions

    int about(int door, int what) {
        World w = all();
        if (door < 0 || door >= w.doors.size()) {
            return -1;
        }
        Door d = w.doors.get(door);
        return switch (what) {
            case 0 -> d.sort;
            case 1 -> w.front(d).id;
            case 2, 3, 4 -> d.place[0] == null ? -1 : d.place[0][what - 2];
            case 5, 6, 7 -> d.place[1] == null ? -1 : d.place[1][what - 5];
            case 8 -> d.k;
            case 9 -> d.over;
            default -> -1;
        };
    }

    boolean stands(int door, int day) {
        World w = then();
        return day(day) && door >= 0 && door < w.doors.size() && w.doors.get(door).stands.on(day);
    }

    private static Span numberOn(Door d, int place, int day) {
        for (Span s : d.numbers.get(place)) {
            if (s.on(day)) {
                return s;
            }
        }
        return null;
    }

    int number(int door, int place, int day, int what) {
        World w = then();
        World whole = all();
        if (door < 0 || door >= whole.doors.size() || place < 0 || place > 1 || !day(day)) {
            return -1;
        }
        // Which door is the FRONT is no matter of what is known: only spans are.
        int front = whole.front(whole.doors.get(door)).id;
        Span s = front < w.doors.size() ? numberOn(w.doors.get(front), place, day) : null;
        if (s == null) {
            return -1;
        }
        return what == 0 ? s.value : what == 1 ? s.from : what == 2 && !s.open() ? s.to : -1;
    }

    int write(int door, int place, int day) {
        World w = then();
        if (!stands(door, day) || place < 0 || place > 1) {
            return -1;
        }
        Door d = w.doors.get(door);
        Span s = numberOn(w.front(d), place, day);
        if (s == null || s.value == 0) {
            return -1;
        }
        for (Span n : w.streets.get(w.front(d).place[place][0]).names) {
            if (n.on(day)) {
                String extra = d.sort < 2 ? "" : d.sort == 2 ? " back" : (d.sort == 3 ? " court " : " floor ") + d.k;
                String letter = s.value % 16 == 0 ? "" : s.value % 16 == 9 ? "+" : "" + (char) ('a' + s.value % 16 - 1);
                out = bytes(n.name + " " + s.value / 16 + letter + extra + ", " + towns.get(n.value));
            }
        }
        return out.length;
    }

    static byte[] bytes(String text) {
        return text.getBytes(java.nio.charset.StandardCharsets.ISO_8859_1);
    }

    /** Where an address breaks off: the longest beginning that some address has. */
    static int faultOf(String text) {
        if (ADDRESS.matcher(text).matches()) {
            return -1;
        }
        for (int n = text.length(); n > 0; n--) {
            Matcher m = ADDRESS.matcher(text.substring(0, n));
            // A matcher that hit the end could still have gone on, or the beginning is one itself.
            if (m.matches() || m.hitEnd()) {
                return n;
            }
        }
        return 0;
    }

    /** The doors that an address means on a day: pairs of door and 1 if it is sure. */
    private List<int[]> meaning(World w, String text, int day) {
        Matcher m = ADDRESS.matcher(text);
        List<int[]> doors = new ArrayList<>();
        if (!m.matches()) {
            return doors;
        }
        int town = towns.indexOf(full(m.group(7)));
        int n = 16 * Integer.parseInt(m.group(2)) + (m.group(3).isEmpty() ? 0 : "abcdefgh+".indexOf(m.group(3)) + 1);
        for (int street = 0; street < w.streets.size(); street++) {
            for (Span s : w.streets.get(street).names) {
                if (s.on(day) && s.value == town && s.name.equals(full(m.group(1)))) {
                    meaningIn(w, street, n, m, day, doors);
                }
            }
        }
        return doors;
    }

    private void meaningIn(World w, int street, int n, Matcher m, int day, List<int[]> doors) {
        int rule = all().streets.get(street).rule;
        List<int[]> likely = new ArrayList<>();
        boolean sure = false;
        for (List<At> line : lines(doorsOf(w, street, day), rule)) {
            for (int i = 0; i < line.size(); i++) {
                At a = line.get(i);
                int told = told(w, a.door.id, m, day);
                if (a.whole == n) {
                    sure = true;
                    if (told >= 0) {
                        doors.add(new int[] {told, 1});
                    }
                }
                int[] gap = gap(line, i);
                boolean could = a.whole == 0 && (rule != 0 || n / 16 % 2 == 1 - a.side);
                if (could && gap[0] < n && n < gap[1] && told >= 0) {
                    likely.add(new int[] {told, 0, gap[2], a.side, a.paces});
                }
            }
        }
        if (!sure) {
            likely.sort(Comparator.comparingInt((int[] l) -> l[2])
                .thenComparingInt(l -> l[3]).thenComparingInt(l -> l[4]));
            doors.addAll(likely);
        }
    }

    private int told(World w, int front, Matcher m, int day) {
        if (m.group(4) == null) {
            return front;
        }
        int sort = m.group(4).startsWith("b") ? 2 : m.group(4).startsWith("c") ? 3 : 4;
        int k = sort == 2 ? 0 : Integer.parseInt(m.group(sort == 3 ? 5 : 6));
        for (Door d : w.doors) {
            if (d.sort == sort && d.k == k && w.front(d).id == front && d.stands.on(day)) {
                return d.id;
            }
        }
        return -1;
    }

    private int sure(World w, String text, int day) {
        for (int[] d : meaning(w, text, day)) {
            if (d[1] == 1) {
                return d[0];
            }
        }
        return -1;
    }

    int means(String text, int day) {
        fault = faultOf(text);
        if (fault >= 0 || !day(day)) {
            return -2;
        }
        found = meaning(then(), text, day);
        return found.size();
    }

    int call(String text, int day) {
        fault = faultOf(text);
        if (fault >= 0 || !day(day)) {
            return -2;
        }
        World w = then();
        for (int d = day; d >= 0; d--) {
            int door = sure(w, text, d);
            if (door >= 0) {
                if (d == day) {
                    return door;
                }
                ended = d + 1;
                return -100 - door;
            }
        }
        return -1;
    }

    int twice(int kind, int a, int b) {
        World w = all();
        if (kind < 0 || kind > 1) {
            return -2;
        }
        int limit = kind == 0 ? w.streets.size() : towns.size();
        if (a < 0 || a >= limit || b < 0 || b >= limit) {
            return -1;
        }
        if (a == b) {
            return -2;
        }
        pairs = new ArrayList<>();
        for (int s = 0; s < w.streets.size(); s++) {
            for (int t = 0; t < w.streets.size(); t++) {
                Span x = w.streets.get(s).open();
                Span y = w.streets.get(t).open();
                if (kind == 0 ? s == a && t == b : x.value == a && y.value == b && x.name.equals(y.name)) {
                    List<At> left = doorsOf(w, s, -1);
                    left.sort(Comparator.comparingInt(At::whole));
                    for (At p : left) {
                        for (At q : doorsOf(w, t, -1)) {
                            if (p.whole == q.whole && p.whole != 0) {
                                pairs.add(new int[] {p.door.id, q.door.id});
                            }
                        }
                    }
                }
            }
        }
        return pairs.size();
    }

    int free(int street, int side, int paces) {
        World w = all();
        if (street < 0 || street >= w.streets.size()) {
            return -1;
        }
        return place(side, paces) ? number(w, street, side, paces, 0) : -2;
    }

    int near(int street, int side, int paces, int day) {
        if (street < 0 || street >= all().streets.size() || !place(side, paces) || !day(day)) {
            return -1;
        }
        List<At> doors = doorsOf(then(), street, day);
        doors.sort(Comparator.comparingInt((At a) -> Math.abs(a.paces - paces)).thenComparingInt(a -> a.side == side ? 0 : 1)
            .thenComparingInt(a -> a.paces).thenComparingInt(a -> a.side));
        return doors.isEmpty() ? -1 : doors.get(0).door.id;
    }

    int stop(int street, int way) {
        if (street < 0 || street >= all().streets.size()) {
            return -1;
        }
        if (way == -1) {
            stops = new ArrayList<>();
            return 0;
        }
        if (way < -1 || way > 2) {
            return -2;
        }
        if (stops.size() == 24) {
            return -6;
        }
        stops.add(new int[] {street, way});
        return stops.size();
    }

    int walk(int day) {
        if (!day(day)) {
            return -2;
        }
        World w = then();
        walked = new ArrayList<>();
        for (int[] stop : stops) {
            List<At> doors = doorsOf(w, stop[0], day);
            Comparator<At> byPaces = Comparator.comparingInt((At a) -> a.paces).thenComparingInt(a -> a.side);
            if (stop[1] == 0) {
                doors = lines(doors, 1).get(0);
            } else {
                doors.sort(stop[1] == 1 ? byPaces : byPaces.reversed());
            }
            for (At a : doors) {
                if (!walked.contains(a.door.id)) {
                    List<Door> with = new ArrayList<>();
                    for (Door d : w.doors) {
                        if (w.front(d) == a.door && d.stands.on(day)) {
                            with.add(d);
                        }
                    }
                    with.sort(Comparator.comparingInt((Door d) -> Math.max(1, d.sort)).thenComparingInt(d -> d.k));
                    for (Door d : with) {
                        walked.add(d.id);
                    }
                }
            }
        }
        return walked.size();
    }

    int letter(String text, int day) {
        fault = faultOf(text);
        if (fault >= 0 || !day(day)) {
            return -2;
        }
        int door = sure(then(), text, day);
        if (door < 0) {
            return -1;
        }
        if (letters.size() == 60) {
            return -6;
        }
        letters.add(door);
        return letters.size();
    }

    int sort() {
        sorted = new ArrayList<>();
        for (int i = 0; i < letters.size(); i++) {
            sorted.add(new int[] {i, letters.get(i)});
        }
        sorted.sort(Comparator.comparingInt((int[] l) -> walked.contains(l[1]) ? walked.indexOf(l[1]) : 1000));
        letters = new ArrayList<>();
        return sorted.size();
    }

    private List<List<Integer>> records(int day) {
        List<List<Integer>> records = new ArrayList<>();
        for (Door d : then().doors) {
            for (int place = 0; place < 2; place++) {
                Span s = numberOn(d, place, day);
                if (s != null) {
                    records.add(List.of(d.id, d.place[place][0], place, s.value >> 16, s.value >> 8 & 255, s.value & 255));
                }
            }
        }
        return records;
    }

    int list(int day) {
        if (!day(day)) {
            return -2;
        }
        List<List<Integer>> records = records(day);
        out = new byte[6 * records.size()];
        for (int i = 0; i < out.length; i++) {
            out[i] = (byte) (int) records.get(i / 6).get(i % 6);
        }
        return out.length;
    }

    int check(byte[] tape, int day) {
        if (!day(day)) {
            return -2;
        }
        List<List<Integer>> records = records(day);
        for (int i = 0; i < tape.length; i += 6) {
            List<Integer> record = new ArrayList<>();
            for (int j = i; j < i + 6 && j < tape.length; j++) {
                record.add(tape[j] & 255);
            }
            if (!records.remove(record)) {
                return i / 6;
            }
        }
        return records.isEmpty() ? -1 : 1000 + records.get(0).get(0);
    }

    int count(int what) {
        World w = all();
        int[] counts = {towns.size(), w.streets.size(), w.doors.size(), papers.size(), w.spans, today, shorts.size(),
            stops.size(), letters.size(), found.size()};
        if (what >= 0 && what < counts.length) {
            return counts[what];
        }
        return what >= 100 && what - 100 < w.streets.size() ? w.streets.get(what - 100).rule : -1;
    }
}

import java.util.Random;

/** Long runs of calls of all kinds (seeds are fixed), each answer held against that of the Model. */
public final class ModelRunsTest {
    private static final String[] NAMES = {"elm", "oak", "elm st", "oak street", "ash low end", "yew", "fir", "old", "x"};
    private static final String[] PAIRS = {"st street", "x yew", "yew fir", "street road", "nu elm", "st st", "low lower",
        "qq old", "st", "st a b", "St a", "ed e", "ef e", "eg e"};
    private static final String[] ODD = {"", "elm 1", "elm 1,old", "elm 1i, old", "elm 1 back", "a b c d 1, old",
        "elm 12345, old", "elm 1, old ", "elm 1 court 100, old", "elm 1 floor, old", "elm 1, a b c d", "Elm 1, old",
        "abcdefghijklm 1, old", "elm 1, abcdefghijklm", "elm 1 cou", "elm 1 x", "elm  1, old", "elm 1+a, old"};
    private static final Checks c = new Checks();

    private final Random random;
    private final boolean isDense;
    private final DoorOffice x = new DoorOffice();
    private final Model m = new Model();
    private final StringBuilder log = new StringBuilder();
    private boolean isRight = true;
    private int latest;

    private ModelRunsTest(long seed, boolean isDense) {
        random = new Random(seed);
        this.isDense = isDense;
    }

    public static void main(String[] args) {
        int runs = args.length > 0 ? Integer.parseInt(args[0]) : 300;
        for (int seed = 0; seed < runs; seed++) {
            ModelRunsTest run = new ModelRunsTest(seed, seed % 2 == 0);
            for (int i = 0; i < 460 && run.isRight; i++) {
                run.step();
            }
            if (!run.isRight) {
                System.out.println("seed " + seed + ":\n" + run.log);
                break;
            }
        }
        c.finish();
    }

    private void due(String call, int got, int want) {
        log.append(call).append(" = ").append(got).append('\n');
        c.due(call, got, want);
        isRight &= got == want;
    }

    private int n(int limit) {
        return random.nextInt(limit);
    }

    private boolean chance(int percent) {
        return n(100) < percent;
    }

    /** Mostly a thing that is there, rarely one that is not. */
    private int some(int count) {
        return count == 0 || chance(3) ? n(2) == 0 ? -1 : count : n(count);
    }

    private int anyDay() {
        return chance(2) ? n(2) == 0 ? -1 : Model.LAST + 1 : chance(3) ? Model.LAST : n(latest + 6);
    }

    private int from() {
        if (chance(70)) {
            latest = Math.min(latest + (chance(25) ? 1 : 0), 60);
            return latest;
        }
        return chance(3) ? anyDay() : n(latest + 2);
    }

    private int paces() {
        return chance(2) ? n(2) == 0 ? -1 : 10000 : isDense ? n(25) : n(6) * 10 + n(3);
    }

    private int side() {
        return chance(2) ? 2 : n(2);
    }

    private int whole() {
        return chance(60) ? 0 : chance(3) ? n(30) : 16 * (1 + n(12)) + (chance(40) ? n(11) : 0);
    }

    private String name() {
        return chance(2) ? ODD[n(ODD.length)] : NAMES[n(NAMES.length)];
    }

    private String number() {
        return (1 + n(14)) + (chance(30) ? "" + "abcdefgh+".charAt(n(9)) : "");
    }

    private String extra(int percent) {
        if (!chance(percent)) {
            return "";
        }
        return n(3) == 0 ? " back" : (n(2) == 0 ? " court " : " floor ") + (1 + n(3));
    }

    /** Any number under a name that the street has on some day: so that many doors are LIKELY. */
    private String addressIn(Model.Street street) {
        Model.Span s = street.names.get(n(street.names.size()));
        return s.name + " " + number() + extra(10) + ", " + m.towns.get(s.value);
    }

    private String address() {
        if (chance(6)) {
            return ODD[n(ODD.length)];
        }
        Model.World w = m.all();
        if (!w.streets.isEmpty() && chance(40)) {
            return addressIn(w.streets.get(n(w.streets.size())));
        }
        String text = name() + " " + number();
        if (!w.doors.isEmpty() && chance(50)) {
            Model.Door d = w.front(w.doors.get(n(w.doors.size())));
            int place = d.place[1] != null && n(2) == 0 ? 1 : 0;
            java.util.List<Model.Span> spans = d.numbers.get(place);
            int value = spans.get(n(spans.size())).value;
            java.util.List<Model.Span> names = w.streets.get(d.place[place][0]).names;
            if (value > 0) {
                Model.Span s = names.get(n(names.size()));
                String letter = value % 16 == 0 ? "" : "" + "abcdefgh+".charAt(value % 16 - 1);
                text = s.name + " " + value / 16 + letter;
            }
        }
        return text + extra(30) + ", " + (m.towns.isEmpty() || chance(10) ? name() : m.towns.get(n(m.towns.size())));
    }

    private byte[] row() {
        byte[] row = new byte[2 * n(8) + (chance(3) ? 1 : 0)];
        int whole = n(3) * 16;
        for (int i = 0; i + 1 < row.length; i += 2) {
            whole += chance(70) ? 16 + 16 * n(3) : chance(80) ? 1 + n(9) : -n(20);
            row[i] = (byte) (whole >> 8);
            row[i + 1] = (byte) whole;
        }
        return row;
    }

    private void step() {
        int kind = n(100);
        if (m.towns.size() < 2) {
            towns();
        } else if (m.all().streets.size() < 2 || kind < 4) {
            streets();
        } else if (kind < 24) {
            doors();
        } else if (kind < 36) {
            changes();
        } else if (kind < 44) {
            desk();
        } else if (kind < 70) {
            askDoors();
        } else if (kind < 88) {
            askAddresses();
        } else {
            askWalks();
        }
        if (chance(20)) {
            int what = chance(70) ? n(10) : 100 + n(5);
            due("count(" + what + ")", x.count(what), m.count(what));
        }
    }

    private void towns() {
        String name = name();
        due("town '" + name + "'", Checks.town(x, name), m.town(name));
    }

    private void streets() {
        String name = name();
        int a = some(m.towns.size());
        int rule = chance(2) ? 4 : n(4);
        int from = from();
        due("street '" + name + "' " + a + " " + rule + " " + from, Checks.street(x, name, a, rule, from), m.street(name, a, rule, from));
    }

    private void doors() {
        int street = some(m.all().streets.size());
        int door = some(m.all().doors.size());
        int side = side();
        int paces = paces();
        int whole = whole();
        int from = from();
        int sort = chance(2) ? 5 : 2 + n(3);
        int k = chance(3) ? n(2) * 100 : sort == 2 ? 0 : 1 + n(3);
        switch (n(8)) {
            case 0, 1, 2, 3 -> due("door " + street + " " + side + " " + paces + " " + whole + " " + from,
                x.door(street, side, paces, whole, from), m.door(street, side, paces, whole, from));
            case 4 -> due("corner " + door + " " + street + " " + side + " " + paces + " " + whole + " " + from,
                x.corner(door, street, side, paces, whole, from), m.corner(door, street, side, paces, whole, from));
            case 5, 6 -> due("under " + sort + " " + door + " " + k + " " + from, x.under(sort, door, k, from), m.under(sort, door, k, from));
            default -> {
                if (chance(40)) {
                    due("gone " + door + " " + from, x.gone(door, from), m.gone(door, from));
                }
            }
        }
    }

    private void changes() {
        int street = some(m.all().streets.size());
        int rule = chance(2) ? -1 : chance(50) ? 3 : n(4);
        int from = from();
        int side = side();
        String name = name();
        switch (n(9)) {
            case 0, 1, 2 -> due("renumber " + street + " " + rule + " " + from, x.renumber(street, rule, from), m.renumber(street, rule, from));
            case 3 -> due("rename '" + name + "' " + street + " " + from, Checks.rename(x, name, street, from), m.rename(name, street, from));
            case 4 -> {
                if (chance(20)) {
                    int a = some(m.towns.size());
                    int b = some(m.towns.size());
                    due("join " + a + " " + b + " " + from, x.join(a, b, from), m.join(a, b, from));
                } else if (chance(20)) {
                    towns();
                }
            }
            case 5, 6 -> {
                byte[] row = row();
                due("row " + java.util.Arrays.toString(row) + " " + street + " " + side, Checks.tell(x, row).row(street, side), m.row(row, street, side));
            }
            case 7 -> {
                int n = chance(4) ? -2 : chance(30) ? -1 : n(6);
                due("tear " + street + " " + side + " " + n, x.tear(street, side, n), m.tear(street, side, n));
            }
            default -> due("undo", x.undo(), m.undo());
        }
    }

    private void desk() {
        int place = chance(3) ? 3 : n(3);
        switch (n(8)) {
            case 0, 1 -> {
                int day = m.today + n(4) - (chance(5) ? 3 : 0);
                boolean isLater = day >= m.today && day <= Model.LAST;
                due("day " + day, x.day(day) ? 1 : 0, isLater ? 1 : 0);
                m.today = isLater ? day : m.today;
            }
            case 2, 3 -> {
                int day = chance(40) ? -1 : n(m.today + 3);
                due("as " + day, x.as(day) ? 1 : 0, 1);
                m.known = day;
            }
            case 4, 5 -> {
                String pair = PAIRS[n(PAIRS.length)];
                due("shorten " + pair, Checks.tell(x, pair).shorten(), m.shorten(pair));
            }
            case 6 -> due("image " + place, x.image(place) ? 1 : 0, m.image(place) ? 1 : 0);
            default -> {
                if (chance(30)) {
                    due("back " + place, x.back(place) ? 1 : 0, m.back(place) ? 1 : 0);
                }
            }
        }
    }

    private void askDoors() {
        int street = some(m.all().streets.size());
        int door = some(m.all().doors.size());
        int side = side();
        int paces = paces();
        int day = anyDay();
        int place = chance(3) ? 2 : n(2);
        int what = chance(3) ? -1 : n(3);
        switch (n(7)) {
            case 0 -> due("about " + door + " " + what, x.about(door, 3 * what + place), m.about(door, 3 * what + place));
            case 1 -> due("stands " + door + " " + day, x.stands(door, day) ? 1 : 0, m.stands(door, day) ? 1 : 0);
            case 2 -> due("number " + door + " " + place + " " + day + " " + what, x.number(door, place, day, what), m.number(door, place, day, what));
            case 3 -> {
                due("write " + door + " " + place + " " + day, x.write(door, place, day), m.write(door, place, day));
                sameOut();
            }
            case 4 -> due("free " + street + " " + side + " " + paces, x.free(street, side, paces), m.free(street, side, paces));
            case 5 -> due("near " + street + " " + side + " " + paces + " " + day, x.near(street, side, paces, day), m.near(street, side, paces, day));
            default -> {
                int kind = chance(3) ? 2 : n(2);
                int count = kind == 0 ? m.all().streets.size() : m.towns.size();
                int a = some(count);
                int b = some(count);
                due("twice " + kind + " " + a + " " + b, x.twice(kind, a, b), m.twice(kind, a, b));
                for (int i = 0; i <= m.pairs.size(); i++) {
                    boolean isThere = i < m.pairs.size();
                    due("pair " + i + " 0", x.pair(i, 0), isThere ? m.pairs.get(i)[0] : -1);
                    due("pair " + i + " 1", x.pair(i, 1), isThere ? m.pairs.get(i)[1] : -1);
                }
            }
        }
    }

    private void sameOut() {
        due("take", x.take(), m.out.length);
        for (int i = 0; i <= m.out.length; i++) {
            due("out " + i, x.out(i), i < m.out.length ? m.out[i] & 255 : -1);
        }
    }

    private void askAddresses() {
        String text = address();
        int day = anyDay();
        switch (n(5)) {
            case 0, 1, 2 -> {
                due("means '" + text + "' " + day, Checks.means(x, text, day), m.means(text, day));
                for (int i = 0; i <= m.found.size(); i++) {
                    boolean isThere = i < m.found.size();
                    due("found " + i + " 0", x.found(i, 0), isThere ? m.found.get(i)[0] : -1);
                    due("found " + i + " 1", x.found(i, 1), isThere ? m.found.get(i)[1] : -1);
                }
            }
            case 3 -> {
                int called = day == Model.LAST ? 70 : day;
                due("call '" + text + "' " + called, Checks.call(x, text, called), m.call(text, called));
                due("ended", x.ended(), m.ended);
            }
            default -> due("letter '" + text + "' " + day, Checks.letter(x, text, day), m.letter(text, day));
        }
        due("fault", x.fault(), m.fault);
    }

    private void askWalks() {
        int street = some(m.all().streets.size());
        int day = anyDay();
        switch (n(6)) {
            case 0 -> {
                int way = chance(4) ? 3 : chance(10) ? -1 : n(3);
                due("stop " + street + " " + way, x.stop(street, way), m.stop(street, way));
            }
            case 1, 2 -> {
                due("walk " + day, x.walk(day), m.walk(day));
                for (int i = 0; i <= m.walked.size(); i++) {
                    due("walked " + i, x.walked(i), i < m.walked.size() ? m.walked.get(i) : -1);
                }
            }
            case 3 -> {
                if (chance(40)) {
                    due("sort", x.sort(), m.sort());
                }
                for (int i = 0; i <= m.sorted.size(); i++) {
                    boolean isThere = i < m.sorted.size();
                    due("sorted " + i + " 0", x.sorted(i, 0), isThere ? m.sorted.get(i)[0] : -1);
                    due("sorted " + i + " 1", x.sorted(i, 1), isThere ? m.sorted.get(i)[1] : -1);
                }
            }
            case 4 -> {
                due("list " + day, x.list(day), m.list(day));
                sameOut();
            }
            default -> {
                byte[] text = m.out.clone();
                if (text.length > 6 && chance(40)) {
                    text = java.util.Arrays.copyOf(text, text.length - (chance(50) ? 6 : 1 + n(6)));
                }
                if (text.length > 12 && chance(30)) {
                    System.arraycopy(text, 6 * n(text.length / 6), text, 0, 6);
                }
                if (text.length > 0 && chance(20)) {
                    text[n(text.length)]++;
                }
                due("check " + java.util.Arrays.toString(text) + " " + day, Checks.tell(x, text).check(day), m.check(text, day));
            }
        }
    }
}

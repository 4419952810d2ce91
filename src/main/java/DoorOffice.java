import java.util.Arrays;

/**
 * A town's office for names of streets and numbers of doors: papers that hold from a day on and are
 * known from a day on, what addresses meant on any day, walks, letters and lists.
 */
public final class DoorOffice {
    public static final int NONE = -1;

    private static final int CANNOT_BE = -2;
    private static final int TOO_EARLY = -3;
    private static final int NONE_LEFT = -4;
    private static final int SECOND_ONE = -5;
    private static final int NO_ROOM = -6;
    private static final int OLD_CALL = -100;
    private static final int LACKS = 1000;

    private static final int LAST_DAY = 109574;
    private static final int OPEN_END = LAST_DAY + 1;
    private static final int LAST_PACES = 9999;

    private static final int MAX_TAPE = 1200;
    private static final int MAX_TOWNS = 8;
    private static final int MAX_STREETS = 24;
    private static final int MAX_DOORS = 100;
    private static final int MAX_SLOTS = 2 * MAX_DOORS;
    private static final int MAX_PAPERS = 200;
    private static final int MAX_NUMBER_SPANS = 3000;
    private static final int MAX_SHORT_FORMS = 20;
    private static final int MAX_STOPS = 24;
    private static final int MAX_LETTERS = 60;
    private static final int MAX_IMAGES = 3;
    private static final int RECORD = 6;

    // 24 streets, a renaming for each other paper, and each of 7 joins moves 24 streets at most.
    private static final int MAX_NAME_SPANS = MAX_STREETS + MAX_PAPERS + MAX_TOWNS * MAX_STREETS;

    private static final int SIDES = 0;
    private static final int ROUND = 1;
    private static final int PACES = 2;
    private static final int GIVEN = 3;

    private static final int DOOR = 0;
    private static final int CORNER = 1;
    private static final int BACK = 2;
    private static final int COURT = 3;
    private static final int FLOOR = 4;

    private static final int UNKNOWN = 0;
    private static final int LEAST_WHOLE = 16;
    private static final int MOST_DIGITS = 9999;
    private static final int MOST_LETTER = 9;
    private static final int ABOVE_ALL = 160000;

    // How a street's doors are ranked: the first three are the ways of a walk.
    private static final int ALONG_RING = 0;
    private static final int RISING = 1;
    private static final int FALLING = 2;
    private static final int ALONG_SIDES = 3;
    private static final int SIDE_STEP = 20000;

    private static final int WORDS = 3;
    private static final int MAX_WORD = 12;
    private static final long LETTER_STEP = 27L;
    // 27 to the 11th power: the place of the first of twelve letters.
    private static final long FIRST_LETTER = 5559060566555523L;

    private final Bytes tape;
    private final Bytes sheet;
    private final Office now;
    private final Office[] images;
    private final Reader reader;
    private final StreetView view;
    private final int[] fresh;
    private final int[] wholeOf;
    private int oldDay;
    private int oldDoor;

    public DoorOffice() {
        tape = new Bytes();
        sheet = new Bytes();
        now = new Office();
        images = new Office[MAX_IMAGES];
        reader = new Reader();
        view = new StreetView();
        fresh = new int[MAX_DOORS];
        wholeOf = new int[MAX_SLOTS];
        oldDay = NONE;
        oldDoor = NONE;
    }

    // ---- the tape and the days

    public int feed(int a, int b, int c, int d, int e) {
        if (tape.n + 20 > MAX_TAPE) {
            return NONE;
        }
        tape.putFour(a);
        tape.putFour(b);
        tape.putFour(c);
        tape.putFour(d);
        tape.putFour(e);
        return tape.n;
    }

    public boolean end(int n) {
        if (n < 0 || n > tape.n) {
            return false;
        }
        tape.n = n;
        return true;
    }

    public int take() {
        tape.copyFrom(sheet);
        return tape.n;
    }

    public boolean day(int d) {
        if (!isDay(d) || d < now.papers.today) {
            return false;
        }
        now.papers.today = d;
        return true;
    }

    public boolean as(int d) {
        if (d != NONE && !isDay(d)) {
            return false;
        }
        now.papers.asKnown = d;
        return true;
    }

    // ---- names and papers

    public int town() {
        if (!readName()) {
            return CANNOT_BE;
        }
        if (now.streets.townNamed(reader.name) != NONE) {
            return SECOND_ONE;
        }
        if (now.streets.towns >= MAX_TOWNS) {
            return NO_ROOM;
        }
        return now.streets.addTown(reader.name);
    }

    public int shorten() {
        boolean isPair = reader.readPair(tape);
        tape.n = 0;
        if (!isPair) {
            return CANNOT_BE;
        }
        long word = reader.name[0];
        if (now.streets.isWordOfTown(word) || now.names.isWordOfName(word)) {
            return SECOND_ONE;
        }
        if (!now.shortForms.keep(word, reader.name[1])) {
            return NO_ROOM;
        }
        return now.shortForms.n;
    }

    public int street(int town, int rule, int from) {
        boolean isName = readName();
        if (!isTownOfItsOwn(town)) {
            return NONE;
        }
        if (!isName || !isRule(rule) || !isDay(from)) {
            return CANNOT_BE;
        }
        if (from < now.papers.latestOn(NONE, town)) {
            return TOO_EARLY;
        }
        if (now.names.isHeldFrom(reader.name, town, from, now.papers)) {
            return SECOND_ONE;
        }
        int street = now.streets.n;
        if (street >= MAX_STREETS || !now.papers.hasRoom()) {
            return NO_ROOM;
        }
        int paper = now.papers.lay(from, street, NONE);
        now.streets.addStreet(rule, paper);
        now.names.open(street, town, reader.name, 0, paper);
        return street;
    }

    public int door(int street, int side, int paces, int whole, int from) {
        if (!now.streets.isStreet(street)) {
            return NONE;
        }
        if (!isPlace(side, paces) || !isWholeOrLeast(whole) || !isDay(from)) {
            return CANNOT_BE;
        }
        if (from < now.earliestOn(street)) {
            return TOO_EARLY;
        }
        int fit = fittingNumber(street, side, paces, whole);
        if (fit < 0) {
            return fit;
        }
        if (now.doors.n >= MAX_DOORS || !now.hasRoomForNumbers(1)) {
            return NO_ROOM;
        }
        int paper = now.papers.lay(from, street, NONE);
        int door = now.doors.add(DOOR, NONE, 0, paper);
        now.doors.setPlace(2 * door, street, side, paces);
        now.numbers.open(2 * door, fit, paper);
        return door;
    }

    public int corner(int door, int street, int side, int paces, int whole, int from) {
        if (!now.streets.isStreet(street) || !now.doors.isOpen(door) || now.doors.sortOf(door) != DOOR) {
            return NONE;
        }
        int first = now.doors.streetOf(2 * door);
        if (first == street || !isPlace(side, paces) || !isWholeOrLeast(whole) || !isDay(from)) {
            return CANNOT_BE;
        }
        if (from < Math.max(now.earliestOn(first), now.earliestOn(street))) {
            return TOO_EARLY;
        }
        int fit = fittingNumber(street, side, paces, whole);
        if (fit < 0) {
            return fit;
        }
        if (!now.hasRoomForNumbers(1)) {
            return NO_ROOM;
        }
        int paper = now.papers.lay(from, first, street);
        now.doors.makeCorner(door, paper);
        now.doors.setPlace(2 * door + 1, street, side, paces);
        now.numbers.open(2 * door + 1, fit, paper);
        return fit;
    }

    public int under(int sort, int door, int k, int from) {
        if (!now.doors.isOpen(door) || isUnderSort(sort) && !canHaveUnder(door, sort)) {
            return NONE;
        }
        if (!isUnderSort(sort) || !isUnderNumber(sort, k) || !isDay(from)) {
            return CANNOT_BE;
        }
        if (from < now.earliestOnDoor(door)) {
            return TOO_EARLY;
        }
        if (now.doors.hasOpenUnder(door, sort, k)) {
            return SECOND_ONE;
        }
        if (now.doors.n >= MAX_DOORS || !now.papers.hasRoom()) {
            return NO_ROOM;
        }
        return now.doors.add(sort, door, k, now.layOnDoor(door, from));
    }

    public int gone(int door, int from) {
        if (!now.doors.isOpen(door)) {
            return NONE;
        }
        if (!isDay(from)) {
            return CANNOT_BE;
        }
        if (from < now.earliestOnDoor(door)) {
            return TOO_EARLY;
        }
        if (!now.papers.hasRoom()) {
            return NO_ROOM;
        }
        int paper = now.layOnDoor(door, from);
        now.numbers.close(2 * door, paper);
        now.numbers.close(2 * door + 1, paper);
        return now.doors.closeWithUnder(door, paper);
    }

    public int renumber(int street, int rule, int from) {
        if (!now.streets.isStreet(street)) {
            return NONE;
        }
        if (!isRule(rule) || !isDay(from)) {
            return CANNOT_BE;
        }
        if (from < now.earliestOn(street)) {
            return TOO_EARLY;
        }
        view.fill(now, street, NONE, orderOf(rule));
        setFreshNumbers(street, rule);
        if (rule == GIVEN && !areFreshRight()) {
            return NONE_LEFT;
        }
        int others = countFreshOthers();
        if (!now.hasRoomForNumbers(others)) {
            return NO_ROOM;
        }
        int paper = now.papers.lay(from, street, NONE);
        now.papers.ruleBefore[paper] = now.streets.ruleOf(street);
        now.streets.setRule(street, rule);
        giveFreshNumbers(paper);
        return others;
    }

    public int rename(int street, int from) {
        boolean isName = readName();
        int span = now.names.openOf(street);
        if (!now.streets.isStreet(street) || span == NONE) {
            return NONE;
        }
        if (!isName || !isDay(from)) {
            return CANNOT_BE;
        }
        if (from < now.earliestOn(street)) {
            return TOO_EARLY;
        }
        int town = now.names.town[span];
        if (now.names.isHeldFrom(reader.name, town, from, now.papers)) {
            return SECOND_ONE;
        }
        if (!now.papers.hasRoom()) {
            return NO_ROOM;
        }
        int paper = now.papers.lay(from, street, NONE);
        now.names.closed[span] = paper;
        now.names.open(street, town, reader.name, 0, paper);
        return 1;
    }

    public int join(int a, int b, int from) {
        if (!isTownOfItsOwn(a) || !isTownOfItsOwn(b)) {
            return NONE;
        }
        if (a == b || !isDay(from)) {
            return CANNOT_BE;
        }
        if (from < Math.max(now.earliestOnTown(a), now.earliestOnTown(b))) {
            return TOO_EARLY;
        }
        if (now.names.haveOneName(a, b)) {
            return SECOND_ONE;
        }
        if (!now.papers.hasRoom()) {
            return NO_ROOM;
        }
        int paper = now.papers.lay(from, NONE, NONE);
        now.papers.townA[paper] = a;
        now.papers.townB[paper] = b;
        return now.names.moveAll(b, a, paper);
    }

    public int row(int street, int side) {
        int answer = keepRow(street, side);
        tape.n = 0;
        return answer;
    }

    public int tear(int street, int side, int n) {
        if (!now.streets.isStreet(street) || !isSide(side)) {
            return NONE;
        }
        if (n < NONE) {
            return CANNOT_BE;
        }
        int had = now.streets.rowLengthOf(street, side);
        now.streets.setRowLength(street, side, Math.min(n, had));
        return had;
    }

    public int undo() {
        return now.takeBackLatest();
    }

    public boolean image(int place) {
        if (place < 0 || place >= MAX_IMAGES) {
            return false;
        }
        if (images[place] == null) {
            images[place] = new Office();
        }
        images[place].copyFrom(now);
        return true;
    }

    public boolean back(int place) {
        if (place < 0 || place >= MAX_IMAGES || images[place] == null) {
            return false;
        }
        now.copyFrom(images[place]);
        return true;
    }

    // ---- questions about doors and addresses

    public int about(int door, int what) {
        if (!now.doors.isDoor(door)) {
            return NONE;
        }
        switch (what) {
            case 0:
                return now.doors.sortOf(door);
            case 1:
                return now.doors.front[door];
            case 2:
                return now.doors.street[2 * door];
            case 3:
                return now.doors.side[2 * door];
            case 4:
                return now.doors.paces[2 * door];
            case 5:
                return now.doors.street[2 * door + 1];
            case 6:
                return now.doors.side[2 * door + 1];
            case 7:
                return now.doors.paces[2 * door + 1];
            case 8:
                return now.doors.k[door];
            case 9:
                return now.doors.over[door];
            default:
                return NONE;
        }
    }

    public boolean stands(int door, int day) {
        return isDay(day) && now.doors.isThereOn(door, day, now.papers);
    }

    public int number(int door, int place, int day, int what) {
        if (!now.doors.isDoor(door) || place < 0 || place > 1 || !isDay(day)) {
            return NONE;
        }
        int span = now.numbers.holding(2 * now.doors.front[door] + place, day, now.papers);
        if (span == NONE) {
            return NONE;
        }
        switch (what) {
            case 0:
                return now.numbers.whole[span];
            case 1:
                return now.papers.startOf(now.numbers.opened[span]);
            case 2:
                int end = now.papers.endOf(now.numbers.closed[span]);
                return end == OPEN_END ? NONE : end;
            default:
                return NONE;
        }
    }

    public int write(int door, int place, int day) {
        if (place < 0 || place > 1 || !stands(door, day)) {
            return NONE;
        }
        int slot = 2 * now.doors.front[door] + place;
        int span = now.numbers.holding(slot, day, now.papers);
        if (span == NONE || now.numbers.whole[span] == UNKNOWN) {
            return NONE;
        }
        int named = now.names.holding(now.doors.streetOf(slot), day, now.papers);
        if (named == NONE) {
            return NONE;
        }
        sheet.n = 0;
        sheet.putName(now.names.words, WORDS * named);
        sheet.put(' ');
        sheet.putWhole(now.numbers.whole[span]);
        putExtra(door);
        sheet.put(',');
        sheet.put(' ');
        sheet.putName(now.streets.townWords, WORDS * now.names.town[named]);
        return sheet.n;
    }

    public int means(int day) {
        if (!readAddress() || !isDay(day)) {
            return CANNOT_BE;
        }
        now.desk.found = 0;
        if (!viewStreetOfAddress(day)) {
            return 0;
        }
        int at = view.indexOf(reader.whole);
        if (at == NONE) {
            findLikely(day);
        } else {
            findOne(view.slot[at] / 2, day, 1, 0);
        }
        return now.desk.found;
    }

    public int fault() {
        return now.desk.fault;
    }

    public int found(int i, int what) {
        if (i < 0 || i >= now.desk.found) {
            return NONE;
        }
        if (what == 0) {
            return now.desk.foundDoor[i];
        }
        return what == 1 ? now.desk.foundSure[i] : NONE;
    }

    public int call(int day) {
        if (!readAddress() || !isDay(day)) {
            return CANNOT_BE;
        }
        int sure = sureDoor(day);
        if (sure != NONE) {
            return sure;
        }
        seekOld(day);
        if (oldDoor == NONE) {
            return NONE;
        }
        now.desk.ended = oldDay + 1;
        return OLD_CALL - oldDoor;
    }

    public int ended() {
        return now.desk.ended;
    }

    public int twice(int kind, int a, int b) {
        if (kind != 0 && kind != 1) {
            return CANNOT_BE;
        }
        int limit = kind == 0 ? now.streets.n : now.streets.towns;
        if (a < 0 || b < 0 || a >= limit || b >= limit) {
            return NONE;
        }
        if (a == b) {
            return CANNOT_BE;
        }
        now.desk.pairs = 0;
        if (kind == 0) {
            pairStreets(a, b);
        } else {
            pairTowns(a, b);
        }
        return now.desk.pairs;
    }

    public int pair(int i, int which) {
        if (i < 0 || i >= now.desk.pairs) {
            return NONE;
        }
        if (which == 0) {
            return now.desk.pairA[i];
        }
        return which == 1 ? now.desk.pairB[i] : NONE;
    }

    public int free(int street, int side, int paces) {
        if (!now.streets.isStreet(street)) {
            return NONE;
        }
        if (!isPlace(side, paces)) {
            return CANNOT_BE;
        }
        return fittingNumber(street, side, paces, 0);
    }

    public int near(int street, int side, int paces, int day) {
        if (!now.streets.isStreet(street) || !isPlace(side, paces) || !isDay(day)) {
            return NONE;
        }
        view.fill(now, street, day, RISING);
        int best = NONE;
        for (int i = 0; i < view.n; i++) {
            if (best == NONE || isNearer(i, best, side, paces)) {
                best = i;
            }
        }
        return best == NONE ? NONE : view.slot[best] / 2;
    }

    // ---- walks, letters and lists

    public int stop(int street, int way) {
        if (!now.streets.isStreet(street)) {
            return NONE;
        }
        if (way == NONE) {
            now.desk.stops = 0;
            return 0;
        }
        if (way < ALONG_RING || way > FALLING) {
            return CANNOT_BE;
        }
        if (now.desk.stops >= MAX_STOPS) {
            return NO_ROOM;
        }
        return now.desk.addStop(street, way);
    }

    public int walk(int day) {
        if (!isDay(day)) {
            return CANNOT_BE;
        }
        now.desk.walked = 0;
        for (int i = 0; i < now.desk.stops; i++) {
            if (now.streets.isStreet(now.desk.stopStreet[i])) {
                view.fill(now, now.desk.stopStreet[i], day, now.desk.stopWay[i]);
                walkView(day);
            }
        }
        return now.desk.walked;
    }

    public int walked(int i) {
        return i >= 0 && i < now.desk.walked ? now.desk.walkedDoor[i] : NONE;
    }

    public int letter(int day) {
        if (!readAddress() || !isDay(day)) {
            return CANNOT_BE;
        }
        int sure = sureDoor(day);
        if (sure == NONE) {
            return NONE;
        }
        if (now.desk.letters >= MAX_LETTERS) {
            return NO_ROOM;
        }
        return now.desk.addLetter(sure);
    }

    public int sort() {
        return now.desk.sortLetters();
    }

    public int sorted(int i, int which) {
        if (i < 0 || i >= now.desk.sorted) {
            return NONE;
        }
        if (which == 0) {
            return now.desk.sortedLetter[i];
        }
        return which == 1 ? now.desk.sortedDoor[i] : NONE;
    }

    public int list(int day) {
        if (!isDay(day)) {
            return CANNOT_BE;
        }
        now.setWholesOn(day, wholeOf);
        sheet.n = 0;
        for (int slot = 0; slot < 2 * now.doors.n; slot++) {
            if (wholeOf[slot] != NONE) {
                putRecord(slot);
            }
        }
        return sheet.n;
    }

    public int check(int day) {
        int answer = isDay(day) ? checkRecords(day) : CANNOT_BE;
        tape.n = 0;
        return answer;
    }

    public int out(int i) {
        return sheet.byteAt(i);
    }

    public int count(int what) {
        switch (what) {
            case 0:
                return now.streets.towns;
            case 1:
                return now.streets.n;
            case 2:
                return now.doors.n;
            case 3:
                return now.papers.n;
            case 4:
                return now.numbers.n;
            case 5:
                return now.papers.today;
            case 6:
                return now.shortForms.n;
            case 7:
                return now.desk.stops;
            case 8:
                return now.desk.letters;
            case 9:
                return now.desk.found;
            case 10:
                return tape.n;
            default:
                return what >= 100 ? now.streets.ruleOf(what - 100) : NONE;
        }
    }

    // ---- what can be at all

    private static boolean isDay(int d) {
        return d >= 0 && d <= LAST_DAY;
    }

    private static boolean isRule(int rule) {
        return rule >= SIDES && rule <= GIVEN;
    }

    private static boolean isSide(int side) {
        return side == 0 || side == 1;
    }

    private static boolean isPlace(int side, int paces) {
        return isSide(side) && paces >= 0 && paces <= LAST_PACES;
    }

    private static boolean isWhole(int whole) {
        return whole >= LEAST_WHOLE && whole / 16 <= MOST_DIGITS && whole % 16 <= MOST_LETTER;
    }

    private static boolean isWholeOrLeast(int whole) {
        return whole == 0 || isWhole(whole);
    }

    private static boolean isUnderSort(int sort) {
        return sort >= BACK && sort <= FLOOR;
    }

    private static boolean isUnderNumber(int sort, int k) {
        return sort == BACK ? k == 0 : k >= 1 && k <= 99;
    }

    private static int orderOf(int rule) {
        return rule == ROUND ? ALONG_RING : ALONG_SIDES;
    }

    private static int digitsByPaces(int side, int paces) {
        return 2 * (paces / 10) + 1 + side;
    }

    private static boolean areDigitsOfSide(int digits, int side) {
        return (digits & 1) == 1 - side;
    }

    private boolean isTownOfItsOwn(int town) {
        return now.streets.isTown(town) && !now.papers.wasJoined(town);
    }

    private boolean canHaveUnder(int door, int sort) {
        int over = now.doors.sortOf(door);
        return sort == COURT ? over == BACK : over == DOOR || over == CORNER;
    }

    // ---- texts of the tape

    private boolean readName() {
        boolean isName = reader.readName(tape, now.shortForms);
        tape.n = 0;
        return isName;
    }

    private boolean readAddress() {
        boolean isAddress = reader.readAddress(tape, now.shortForms);
        tape.n = 0;
        now.desk.fault = reader.fault;
        return isAddress;
    }

    private int keepRow(int street, int side) {
        if (!now.streets.isStreet(street)) {
            return NONE;
        }
        if (!isSide(side) || tape.n % 2 != 0) {
            return CANNOT_BE;
        }
        int wholes = tape.n / 2;
        now.streets.setRowLength(street, side, wholes);
        for (int i = 0; i < wholes; i++) {
            now.streets.setRowWhole(street, side, i, tape.at[2 * i] * 256 + tape.at[2 * i + 1]);
        }
        return wholes;
    }

    // ---- numbers

    private int fittingNumber(int street, int side, int paces, int whole) {
        view.fill(now, street, NONE, orderOf(now.streets.ruleOf(street)));
        int fit = view.fittingNumber(side, paces, whole);
        if (fit == NONE) {
            return NONE_LEFT;
        }
        return view.hasDoorAt(side, paces) ? SECOND_ONE : fit;
    }

    private void setFreshNumbers(int street, int rule) {
        int nth = 0;
        for (int i = 0; i < view.n; i++) {
            int side = view.side[i];
            nth = i > 0 && view.side[i - 1] == side ? nth + 1 : 0;
            if (rule == SIDES) {
                fresh[i] = 16 * (2 * nth + 1 + side);
            } else if (rule == ROUND) {
                fresh[i] = 16 * (i + 1);
            } else if (rule == PACES) {
                fresh[i] = freshByPaces(i, 16 * digitsByPaces(side, view.paces[i]));
            } else {
                fresh[i] = now.streets.rowWholeOf(street, side, nth);
            }
        }
    }

    private int freshByPaces(int i, int whole) {
        boolean isLike = i > 0 && fresh[i - 1] / 16 == whole / 16;
        return isLike ? fresh[i - 1] + 1 : whole;
    }

    private boolean areFreshRight() {
        for (int i = 0; i < view.n; i++) {
            if (fresh[i] != NONE && (!isWhole(fresh[i]) || !isAboveAllBehind(i))) {
                return false;
            }
        }
        return true;
    }

    private boolean isAboveAllBehind(int i) {
        for (int j = 0; j < i; j++) {
            boolean isSame = fresh[j] == fresh[i];
            boolean isFall = view.side[j] == view.side[i] && fresh[j] > fresh[i];
            if (isSame || isFall) {
                return false;
            }
        }
        return true;
    }

    private int freshWhole(int i) {
        return fresh[i] == NONE ? UNKNOWN : fresh[i];
    }

    private int countFreshOthers() {
        int others = 0;
        for (int i = 0; i < view.n; i++) {
            if (freshWhole(i) != view.whole[i]) {
                others++;
            }
        }
        return others;
    }

    private void giveFreshNumbers(int paper) {
        for (int i = 0; i < view.n; i++) {
            if (freshWhole(i) != view.whole[i]) {
                now.numbers.closed[view.span[i]] = paper;
                now.numbers.open(view.slot[i], freshWhole(i), paper);
            }
        }
    }

    private boolean isNearer(int i, int best, int side, int paces) {
        int far = Math.abs(view.paces[i] - paces);
        int bestFar = Math.abs(view.paces[best] - paces);
        if (far != bestFar) {
            return far < bestFar;
        }
        // The view rises by paces, then sides: of the rest the earlier one is the nearer.
        return view.side[i] == side && view.side[best] != side;
    }

    // ---- addresses

    private void putExtra(int door) {
        switch (now.doors.sortOf(door)) {
            case BACK:
                sheet.putText(" back");
                break;
            case COURT:
                sheet.putText(" court ");
                sheet.putDecimal(now.doors.k[door]);
                break;
            case FLOOR:
                sheet.putText(" floor ");
                sheet.putDecimal(now.doors.k[door]);
                break;
            default:
                break;
        }
    }

    private boolean viewStreetOfAddress(int day) {
        int town = now.streets.townNamed(reader.town);
        int street = now.names.streetOn(reader.name, town, day, now.papers);
        if (street == NONE) {
            return false;
        }
        view.fill(now, street, day, orderOf(now.streets.ruleOf(street)));
        return true;
    }

    private int sureDoor(int day) {
        if (!viewStreetOfAddress(day)) {
            return NONE;
        }
        int at = view.indexOf(reader.whole);
        return at == NONE ? NONE : toldOf(view.slot[at] / 2, day);
    }

    /** The door that the address tells at a front: itself, or with EXTRA the one under it. */
    private int toldOf(int front, int day) {
        for (int door = 0; door < now.doors.n; door++) {
            if (isTold(door, front) && now.doors.isThereOn(door, day, now.papers)) {
                return door;
            }
        }
        return NONE;
    }

    private boolean isTold(int door, int front) {
        if (reader.extra == NONE) {
            return door == front;
        }
        return now.doors.front[door] == front && now.doors.sortOf(door) == reader.extra
            && now.doors.k[door] == reader.extraNumber;
    }

    private void findOne(int front, int day, int sure, int rank) {
        int door = toldOf(front, day);
        if (door != NONE) {
            now.desk.addFound(door, sure, rank);
        }
    }

    private void findLikely(int day) {
        for (int i = 0; i < view.n; i++) {
            if (view.couldHave(i, reader.whole)) {
                findOne(view.slot[i] / 2, day, 0, view.likelyRankOf(i));
            }
        }
    }

    /** Looks for the latest day ahead of a day on which the address meant a door, and for that door. */
    private void seekOld(int day) {
        oldDay = NONE;
        oldDoor = NONE;
        int town = now.streets.townNamed(reader.town);
        for (int i = 0; i < now.names.n; i++) {
            if (now.names.isNamed(i, reader.name, town) && now.papers.isThere(now.names.opened[i])) {
                seekOldIn(i, day);
            }
        }
    }

    /** The same by one span of its street's name. */
    private void seekOldIn(int name, int day) {
        int first = now.papers.startOf(now.names.opened[name]);
        int end = Math.min(day, now.papers.endOf(now.names.closed[name]));
        for (int i = 0; i < now.numbers.n; i++) {
            boolean isNumber = now.numbers.whole[i] == reader.whole
                && now.doors.streetOf(now.numbers.slot[i]) == now.names.street[name]
                && now.papers.isThere(now.numbers.opened[i]);
            if (isNumber) {
                int start = Math.max(first, now.papers.startOf(now.numbers.opened[i]));
                int last = Math.min(end, now.papers.endOf(now.numbers.closed[i]));
                seekOldAt(now.numbers.slot[i] / 2, start, last);
            }
        }
    }

    private void seekOldAt(int front, int start, int end) {
        for (int door = 0; door < now.doors.n; door++) {
            if (isTold(door, front) && now.papers.isThere(now.doors.opened[door])) {
                int from = Math.max(start, now.papers.startOf(now.doors.opened[door]));
                int last = Math.min(end, now.papers.endOf(now.doors.closed[door])) - 1;
                if (last >= from && last > oldDay) {
                    oldDay = last;
                    oldDoor = door;
                }
            }
        }
    }

    // ---- pairs

    private void pairTowns(int a, int b) {
        for (int street = 0; street < now.streets.n; street++) {
            if (now.names.townOf(street) == a) {
                int other = now.names.streetNamedLike(street, b);
                if (other != NONE) {
                    pairStreets(street, other);
                }
            }
        }
    }

    private void pairStreets(int a, int b) {
        int first = now.desk.pairs;
        for (int i = 0; i < now.numbers.n; i++) {
            if (now.isOpenKnownNumberIn(i, a)) {
                for (int j = 0; j < now.numbers.n; j++) {
                    if (now.numbers.whole[j] == now.numbers.whole[i] && now.isOpenKnownNumberIn(j, b)) {
                        int whole = now.numbers.whole[i];
                        now.desk.addPair(now.numbers.slot[i] / 2, now.numbers.slot[j] / 2, whole, first);
                    }
                }
            }
        }
    }

    // ---- walks and lists

    private void walkView(int day) {
        for (int i = 0; i < view.n; i++) {
            int front = view.slot[i] / 2;
            if (now.desk.whenWalked(front) == NONE) {
                now.desk.addWalked(front);
                walkUnder(front, day);
            }
        }
    }

    private void walkUnder(int front, int day) {
        int first = now.desk.walked;
        for (int door = 0; door < now.doors.n; door++) {
            boolean isUnder = door != front && now.doors.front[door] == front;
            if (isUnder && now.doors.isThereOn(door, day, now.papers)) {
                now.desk.addWalked(door);
                now.sinkWalked(first);
            }
        }
    }

    private void putRecord(int slot) {
        sheet.put(slot / 2);
        sheet.put(now.doors.streetOf(slot));
        sheet.put(slot % 2);
        sheet.put(wholeOf[slot] >> 16);
        sheet.put(wholeOf[slot] >> 8);
        sheet.put(wholeOf[slot]);
    }

    private int checkRecords(int day) {
        now.setWholesOn(day, wholeOf);
        for (int at = 0; at < tape.n; at += RECORD) {
            int slot = slotOfRecord(at);
            if (slot == NONE) {
                return at / RECORD;
            }
            // What was told once is none of the list any more.
            wholeOf[slot] = NONE;
        }
        for (int slot = 0; slot < 2 * now.doors.n; slot++) {
            if (wholeOf[slot] != NONE) {
                return LACKS + slot / 2;
            }
        }
        return NONE;
    }

    /** The slot of which a record of the tape tells what the list has, or NONE. */
    private int slotOfRecord(int at) {
        if (at + RECORD > tape.n || tape.at[at] >= now.doors.n || tape.at[at + 2] > 1) {
            return NONE;
        }
        int slot = 2 * tape.at[at] + tape.at[at + 2];
        int whole = tape.at[at + 3] * 65536 + tape.at[at + 4] * 256 + tape.at[at + 5];
        boolean isRight = wholeOf[slot] == whole && now.doors.streetOf(slot) == tape.at[at + 1];
        return isRight ? slot : NONE;
    }

    // ---- the classes inside

    /** A text of bytes, each 0 .. 255: the tape, and OUT. */
    private static final class Bytes {
        int n;
        final int[] at = new int[MAX_TAPE];

        void copyFrom(Bytes other) {
            System.arraycopy(other.at, 0, at, 0, other.n);
            n = other.n;
        }

        int byteAt(int i) {
            return i >= 0 && i < n ? at[i] : NONE;
        }

        void put(int value) {
            if (n < MAX_TAPE) {
                at[n] = value & 255;
                n++;
            }
        }

        void putFour(int value) {
            put(value >> 24);
            put(value >> 16);
            put(value >> 8);
            put(value);
        }

        void putText(String text) {
            for (int i = 0; i < text.length(); i++) {
                put(text.charAt(i));
            }
        }

        void putDecimal(int value) {
            for (int step = 1000; step > 0; step /= 10) {
                if (value >= step) {
                    put('0' + value / step % 10);
                }
            }
        }

        void putWhole(int whole) {
            putDecimal(whole / 16);
            int letter = whole % 16;
            if (letter == MOST_LETTER) {
                put('+');
            } else if (letter > 0) {
                put('a' + letter - 1);
            }
        }

        void putWord(long word) {
            long rest = word;
            for (long step = FIRST_LETTER; step > 0; step /= LETTER_STEP) {
                long letter = rest / step;
                rest -= letter * step;
                if (letter > 0) {
                    put('a' + (int) letter - 1);
                }
            }
        }

        void putName(long[] words, int first) {
            for (int i = first; i >= 0 && i < first + WORDS && i < words.length; i++) {
                if (words[i] != 0 && i > first) {
                    put(' ');
                }
                putWord(words[i]);
            }
        }
    }

    /** SHORT forms: words, and the words that they are for. */
    private static final class ShortForms {
        int n;
        final long[] word = new long[MAX_SHORT_FORMS];
        final long[] meaning = new long[MAX_SHORT_FORMS];

        void copyFrom(ShortForms other) {
            n = other.n;
            System.arraycopy(other.word, 0, word, 0, n);
            System.arraycopy(other.meaning, 0, meaning, 0, n);
        }

        int indexOf(long told) {
            for (int i = 0; i < n; i++) {
                if (word[i] == told) {
                    return i;
                }
            }
            return NONE;
        }

        long full(long told) {
            int i = indexOf(told);
            return i == NONE ? told : meaning[i];
        }

        boolean keep(long told, long full) {
            int i = indexOf(told);
            if (i == NONE) {
                if (n >= MAX_SHORT_FORMS) {
                    return false;
                }
                i = n;
                n++;
            }
            word[i] = told;
            meaning[i] = full;
            return true;
        }
    }

    /**
     * Reads names and addresses. A word is kept as one number, its letters being digits 1 .. 26 in
     * base 27; a name as three words, 0 where there is none.
     */
    private static final class Reader {
        final long[] name = new long[WORDS];
        final long[] town = new long[WORDS];
        int whole;
        int extra;
        int extraNumber;
        int fault = NONE;
        private Bytes text;
        private int place;

        boolean readName(Bytes tape, ShortForms shortForms) {
            begin(tape);
            boolean isName = readToEnd(name);
            lengthen(name, shortForms);
            return isName;
        }

        /** Two words, as they stand: a SHORT form, and what it is for. */
        boolean readPair(Bytes tape) {
            begin(tape);
            name[0] = readWord();
            boolean hasBlank = readByte(' ');
            name[1] = readWord();
            return name[0] != 0 && hasBlank && name[1] != 0 && place == text.n;
        }

        boolean readAddress(Bytes tape, ShortForms shortForms) {
            begin(tape);
            boolean isAddress = readStreet() && readNumber() && readExtra()
                && readByte(',') && readByte(' ') && readToEnd(town);
            fault = isAddress ? NONE : place;
            lengthen(name, shortForms);
            lengthen(town, shortForms);
            return isAddress;
        }

        private void begin(Bytes tape) {
            text = tape;
            place = 0;
        }

        private static void lengthen(long[] words, ShortForms shortForms) {
            for (int i = 0; i < WORDS; i++) {
                words[i] = shortForms.full(words[i]);
            }
        }

        private boolean isNext(int least, int most) {
            return place < text.n && text.at[place] >= least && text.at[place] <= most;
        }

        private boolean readByte(int value) {
            if (!isNext(value, value)) {
                return false;
            }
            place++;
            return true;
        }

        private long readWord() {
            long word = 0;
            for (int i = 0; i < MAX_WORD && isNext('a', 'z'); i++) {
                word = word * LETTER_STEP + (text.at[place] - 'a' + 1);
                place++;
            }
            return word;
        }

        /** One to three words up to the end of the text. */
        private boolean readToEnd(long[] words) {
            Arrays.fill(words, 0);
            for (int i = 0; i < WORDS; i++) {
                words[i] = readWord();
                if (words[i] == 0) {
                    return false;
                }
                if (place == text.n) {
                    return true;
                }
                if (i == WORDS - 1 || !readByte(' ')) {
                    return false;
                }
            }
            return false;
        }

        /** One to three words, each with a blank behind it, up to the first digit of a number. */
        private boolean readStreet() {
            Arrays.fill(name, 0);
            for (int i = 0; i < WORDS; i++) {
                name[i] = readWord();
                if (name[i] == 0 || !readByte(' ')) {
                    return false;
                }
                if (isNext('1', '9')) {
                    return true;
                }
            }
            return false;
        }

        /** Digits, the first no 0: their number; 0 if there are none. */
        private int readDigits(int most) {
            int digits = 0;
            for (int i = 0; i < most && isNext(i == 0 ? '1' : '0', '9'); i++) {
                digits = digits * 10 + text.at[place] - '0';
                place++;
            }
            return digits;
        }

        private boolean readNumber() {
            int digits = readDigits(4);
            if (digits == 0) {
                return false;
            }
            whole = 16 * digits;
            if (isNext('a', 'h')) {
                whole += text.at[place] - 'a' + 1;
                place++;
            } else if (readByte('+')) {
                whole += MOST_LETTER;
            }
            return true;
        }

        private boolean readText(String wanted) {
            for (int i = 0; i < wanted.length(); i++) {
                if (!readByte(wanted.charAt(i))) {
                    return false;
                }
            }
            return true;
        }

        private boolean readExtra() {
            extra = NONE;
            extraNumber = 0;
            if (!readByte(' ')) {
                return true;
            }
            if (isNext('b', 'b')) {
                extra = BACK;
                return readText("back");
            }
            boolean isCourt = isNext('c', 'c');
            extra = isCourt ? COURT : FLOOR;
            if (!readText(isCourt ? "court " : "floor ")) {
                return false;
            }
            extraNumber = readDigits(2);
            return extraNumber > 0;
        }
    }

    /** The papers that lie there, as they were laid, with TODAY and the day as known on. */
    private static final class Papers {
        int today;
        int asKnown = NONE;
        int n;
        final int[] from = new int[MAX_PAPERS];
        final int[] known = new int[MAX_PAPERS];
        final int[] streetA = new int[MAX_PAPERS];
        final int[] streetB = new int[MAX_PAPERS];
        final int[] townA = new int[MAX_PAPERS];
        final int[] townB = new int[MAX_PAPERS];
        final int[] ruleBefore = new int[MAX_PAPERS];

        void copyFrom(Papers other) {
            today = other.today;
            asKnown = other.asKnown;
            n = other.n;
            System.arraycopy(other.from, 0, from, 0, n);
            System.arraycopy(other.known, 0, known, 0, n);
            System.arraycopy(other.streetA, 0, streetA, 0, n);
            System.arraycopy(other.streetB, 0, streetB, 0, n);
            System.arraycopy(other.townA, 0, townA, 0, n);
            System.arraycopy(other.townB, 0, townB, 0, n);
            System.arraycopy(other.ruleBefore, 0, ruleBefore, 0, n);
        }

        boolean hasRoom() {
            return n < MAX_PAPERS;
        }

        /** Lays a paper on one or two streets, or on none: a join. Asked only where there is room. */
        int lay(int firstDay, int street, int otherStreet) {
            int paper = Math.min(n, MAX_PAPERS - 1);
            from[paper] = firstDay;
            known[paper] = today;
            streetA[paper] = street;
            streetB[paper] = otherStreet;
            townA[paper] = NONE;
            townB[paper] = NONE;
            ruleBefore[paper] = NONE;
            n = paper + 1;
            return paper;
        }

        boolean isPaper(int paper) {
            return paper >= 0 && paper < n;
        }

        boolean isThere(int paper) {
            return paper >= 0 && paper < n && (asKnown == NONE || known[paper] <= asKnown);
        }

        int startOf(int opened) {
            return isPaper(opened) ? from[opened] : OPEN_END;
        }

        int endOf(int closed) {
            return isThere(closed) ? from[closed] : OPEN_END;
        }

        /** As endOf, all papers being there. */
        int lastEndOf(int closed) {
            return isPaper(closed) ? from[closed] : OPEN_END;
        }

        boolean holds(int opened, int closed, int day) {
            return isThere(opened) && from[opened] <= day && (!isThere(closed) || day < from[closed]);
        }

        /** Opens again what the latest paper closed; how many are left without what it opened. */
        static int keptWithout(int paper, int[] opened, int[] closed, int count) {
            int kept = 0;
            for (int i = 0; i < count; i++) {
                if (closed[i] == paper) {
                    closed[i] = NONE;
                }
                // What the latest paper opened stands behind all others.
                if (opened[i] != paper) {
                    kept++;
                }
            }
            return kept;
        }

        boolean wasJoined(int town) {
            for (int i = 0; i < n; i++) {
                if (townB[i] == town) {
                    return true;
                }
            }
            return false;
        }

        /** The latest day of those on a street or joins of a town (NONE: of no street, or town). */
        int latestOn(int street, int town) {
            int latest = 0;
            for (int i = 0; i < n; i++) {
                boolean isOnStreet = street != NONE && (streetA[i] == street || streetB[i] == street);
                boolean isOnTown = town != NONE && (townA[i] == town || townB[i] == town);
                if (isOnStreet || isOnTown) {
                    latest = Math.max(latest, from[i]);
                }
            }
            return latest;
        }
    }

    /** SPANS of numbers. A slot is a door's place in a street: twice the door, and the place. */
    private static final class NumberSpans {
        int n;
        final int[] slot = new int[MAX_NUMBER_SPANS];
        final int[] whole = new int[MAX_NUMBER_SPANS];
        final int[] opened = new int[MAX_NUMBER_SPANS];
        final int[] closed = new int[MAX_NUMBER_SPANS];

        void copyFrom(NumberSpans other) {
            n = other.n;
            System.arraycopy(other.slot, 0, slot, 0, n);
            System.arraycopy(other.whole, 0, whole, 0, n);
            System.arraycopy(other.opened, 0, opened, 0, n);
            System.arraycopy(other.closed, 0, closed, 0, n);
        }

        void open(int newSlot, int newWhole, int paper) {
            if (n < MAX_NUMBER_SPANS) {
                slot[n] = newSlot;
                whole[n] = newWhole;
                opened[n] = paper;
                closed[n] = NONE;
                n++;
            }
        }

        void close(int oldSlot, int paper) {
            for (int i = 0; i < n; i++) {
                if (slot[i] == oldSlot && closed[i] == NONE) {
                    closed[i] = paper;
                }
            }
        }

        int holding(int askedSlot, int day, Papers papers) {
            for (int i = 0; i < n; i++) {
                if (slot[i] == askedSlot && papers.holds(opened[i], closed[i], day)) {
                    return i;
                }
            }
            return NONE;
        }

        void takeBack(int paper) {
            n = Papers.keptWithout(paper, opened, closed, n);
        }
    }

    /** SPANS of streets' names and their towns. */
    private static final class NameSpans {
        int n;
        final int[] street = new int[MAX_NAME_SPANS];
        final int[] town = new int[MAX_NAME_SPANS];
        final int[] opened = new int[MAX_NAME_SPANS];
        final int[] closed = new int[MAX_NAME_SPANS];
        final long[] words = new long[WORDS * MAX_NAME_SPANS];

        void copyFrom(NameSpans other) {
            n = other.n;
            System.arraycopy(other.street, 0, street, 0, n);
            System.arraycopy(other.town, 0, town, 0, n);
            System.arraycopy(other.opened, 0, opened, 0, n);
            System.arraycopy(other.closed, 0, closed, 0, n);
            System.arraycopy(other.words, 0, words, 0, WORDS * n);
        }

        void open(int newStreet, int newTown, long[] name, int first, int paper) {
            if (n < MAX_NAME_SPANS && first >= 0 && first + WORDS <= name.length) {
                street[n] = newStreet;
                town[n] = newTown;
                opened[n] = paper;
                closed[n] = NONE;
                System.arraycopy(name, first, words, WORDS * n, WORDS);
                n++;
            }
        }

        int openOf(int asked) {
            for (int i = 0; i < n; i++) {
                if (street[i] == asked && closed[i] == NONE) {
                    return i;
                }
            }
            return NONE;
        }

        int townOf(int asked) {
            int span = openOf(asked);
            return span == NONE ? NONE : town[span];
        }

        int holding(int asked, int day, Papers papers) {
            for (int i = 0; i < n; i++) {
                if (street[i] == asked && papers.holds(opened[i], closed[i], day)) {
                    return i;
                }
            }
            return NONE;
        }

        boolean isNamed(int span, long[] name, int inTown) {
            return town[span] == inTown && areLike(words, WORDS * span, name, 0);
        }

        int streetOn(long[] name, int inTown, int day, Papers papers) {
            for (int i = 0; i < n; i++) {
                if (isNamed(i, name, inTown) && papers.holds(opened[i], closed[i], day)) {
                    return street[i];
                }
            }
            return NONE;
        }

        boolean isHeldFrom(long[] name, int inTown, int from, Papers papers) {
            for (int i = 0; i < n; i++) {
                int start = Math.max(from, papers.startOf(opened[i]));
                if (isNamed(i, name, inTown) && start < papers.lastEndOf(closed[i])) {
                    return true;
                }
            }
            return false;
        }

        boolean isWordOfName(long word) {
            for (int i = 0; i < WORDS * n; i++) {
                if (words[i] == word) {
                    return true;
                }
            }
            return false;
        }

        /** The street of a town that has now the name that another street has now. */
        int streetNamedLike(int other, int inTown) {
            int span = openOf(other);
            for (int i = 0; i < n && span != NONE; i++) {
                boolean isInTown = closed[i] == NONE && town[i] == inTown;
                if (isInTown && areLike(words, WORDS * i, words, WORDS * span)) {
                    return street[i];
                }
            }
            return NONE;
        }

        boolean haveOneName(int a, int b) {
            for (int i = 0; i < n; i++) {
                boolean isOfA = closed[i] == NONE && town[i] == a;
                if (isOfA && streetNamedLike(street[i], b) != NONE) {
                    return true;
                }
            }
            return false;
        }

        int moveAll(int away, int into, int paper) {
            int before = n;
            for (int i = 0; i < before; i++) {
                if (closed[i] == NONE && town[i] == away) {
                    closed[i] = paper;
                    open(street[i], into, words, WORDS * i, paper);
                }
            }
            return n - before;
        }

        void takeBack(int paper) {
            n = Papers.keptWithout(paper, opened, closed, n);
        }

        static boolean areLike(long[] a, int atA, long[] b, int atB) {
            for (int i = 0; i < WORDS; i++) {
                if (a[atA + i] != b[atB + i]) {
                    return false;
                }
            }
            return true;
        }
    }

    /** Towns with their names, streets with their rules and ROWS. */
    private static final class Streets {
        int towns;
        int n;
        final long[] townWords = new long[WORDS * MAX_TOWNS];
        final int[] rule = new int[MAX_STREETS];
        final int[] opened = new int[MAX_STREETS];
        final int[] rowLength = new int[2 * MAX_STREETS];
        final int[] rowWhole = new int[2 * MAX_STREETS * MAX_DOORS];

        void copyFrom(Streets other) {
            towns = other.towns;
            n = other.n;
            System.arraycopy(other.townWords, 0, townWords, 0, WORDS * towns);
            System.arraycopy(other.rule, 0, rule, 0, n);
            System.arraycopy(other.opened, 0, opened, 0, n);
            System.arraycopy(other.rowLength, 0, rowLength, 0, 2 * n);
            System.arraycopy(other.rowWhole, 0, rowWhole, 0, 2 * n * MAX_DOORS);
        }

        boolean isTown(int town) {
            return town >= 0 && town < towns;
        }

        boolean isStreet(int street) {
            return street >= 0 && street < n;
        }

        int townNamed(long[] name) {
            for (int i = 0; i < towns; i++) {
                if (NameSpans.areLike(townWords, WORDS * i, name, 0)) {
                    return i;
                }
            }
            return NONE;
        }

        boolean isWordOfTown(long word) {
            for (int i = 0; i < WORDS * towns; i++) {
                if (townWords[i] == word) {
                    return true;
                }
            }
            return false;
        }

        int addTown(long[] name) {
            if (towns >= MAX_TOWNS) {
                return NONE;
            }
            System.arraycopy(name, 0, townWords, WORDS * towns, WORDS);
            towns++;
            return towns - 1;
        }

        void addStreet(int newRule, int paper) {
            if (n < MAX_STREETS) {
                rule[n] = newRule;
                opened[n] = paper;
                rowLength[2 * n] = NONE;
                rowLength[2 * n + 1] = NONE;
                n++;
            }
        }

        int ruleOf(int street) {
            return isStreet(street) ? rule[street] : NONE;
        }

        void setRule(int street, int newRule) {
            if (isStreet(street)) {
                rule[street] = newRule;
            }
        }

        int rowLengthOf(int street, int side) {
            return rowLength[2 * street + side];
        }

        void setRowLength(int street, int side, int length) {
            rowLength[2 * street + side] = length;
        }

        /** Only as many wholes as there can be doors are kept. */
        void setRowWhole(int street, int side, int i, int whole) {
            if (i < MAX_DOORS) {
                rowWhole[(2 * street + side) * MAX_DOORS + i] = whole;
            }
        }

        /** NONE where the ROW does not tell one. */
        int rowWholeOf(int street, int side, int i) {
            int row = 2 * street + side;
            return i < rowLength[row] && i < MAX_DOORS ? rowWhole[row * MAX_DOORS + i] : NONE;
        }

        void takeBack(int paper) {
            if (n > 0 && opened[n - 1] == paper) {
                n--;
            }
        }
    }

    /** Doors of all sorts, with the papers that opened and closed them or made them corners. */
    private static final class Doors {
        int n;
        final int[] sort = new int[MAX_DOORS];
        final int[] over = new int[MAX_DOORS];
        final int[] front = new int[MAX_DOORS];
        final int[] k = new int[MAX_DOORS];
        final int[] opened = new int[MAX_DOORS];
        final int[] closed = new int[MAX_DOORS];
        final int[] cornered = new int[MAX_DOORS];
        final int[] street = new int[MAX_SLOTS];
        final int[] side = new int[MAX_SLOTS];
        final int[] paces = new int[MAX_SLOTS];

        void copyFrom(Doors other) {
            n = other.n;
            System.arraycopy(other.sort, 0, sort, 0, n);
            System.arraycopy(other.over, 0, over, 0, n);
            System.arraycopy(other.front, 0, front, 0, n);
            System.arraycopy(other.k, 0, k, 0, n);
            System.arraycopy(other.opened, 0, opened, 0, n);
            System.arraycopy(other.closed, 0, closed, 0, n);
            System.arraycopy(other.cornered, 0, cornered, 0, n);
            System.arraycopy(other.street, 0, street, 0, 2 * n);
            System.arraycopy(other.side, 0, side, 0, 2 * n);
            System.arraycopy(other.paces, 0, paces, 0, 2 * n);
        }

        boolean isDoor(int door) {
            return door >= 0 && door < n;
        }

        boolean isOpen(int door) {
            return isDoor(door) && closed[door] == NONE;
        }

        boolean isThereOn(int door, int day, Papers papers) {
            return isDoor(door) && papers.holds(opened[door], closed[door], day);
        }

        int sortOf(int door) {
            if (!isDoor(door)) {
                return NONE;
            }
            return cornered[door] != NONE ? CORNER : sort[door];
        }

        int streetOf(int slot) {
            return slot >= 0 && slot < 2 * n ? street[slot] : NONE;
        }

        int add(int newSort, int newOver, int newK, int paper) {
            if (n >= MAX_DOORS) {
                return NONE;
            }
            int door = n;
            n++;
            sort[door] = newSort;
            over[door] = newOver;
            front[door] = isDoor(newOver) ? front[newOver] : door;
            k[door] = newK;
            opened[door] = paper;
            closed[door] = NONE;
            cornered[door] = NONE;
            setPlace(2 * door, NONE, NONE, NONE);
            setPlace(2 * door + 1, NONE, NONE, NONE);
            return door;
        }

        void setPlace(int slot, int newStreet, int newSide, int newPaces) {
            if (slot >= 0 && slot < MAX_SLOTS) {
                street[slot] = newStreet;
                side[slot] = newSide;
                paces[slot] = newPaces;
            }
        }

        void makeCorner(int door, int paper) {
            if (isDoor(door)) {
                cornered[door] = paper;
            }
        }

        boolean hasOpenUnder(int door, int askedSort, int askedK) {
            for (int i = 0; i < n; i++) {
                if (isOpen(i) && over[i] == door && sort[i] == askedSort && k[i] == askedK) {
                    return true;
                }
            }
            return false;
        }

        int closeWithUnder(int top, int paper) {
            int gone = 0;
            // What is under a door came later: one way through finds all.
            for (int i = 0; i < n; i++) {
                boolean isUnderGone = isDoor(over[i]) && closed[over[i]] == paper;
                if (isOpen(i) && (i == top || isUnderGone)) {
                    closed[i] = paper;
                    gone++;
                }
            }
            return gone;
        }

        void takeBack(int paper) {
            n = Papers.keptWithout(paper, opened, closed, n);
            for (int i = 0; i < n; i++) {
                if (cornered[i] == paper) {
                    cornered[i] = NONE;
                    setPlace(2 * i + 1, NONE, NONE, NONE);
                }
            }
        }
    }

    /** What questions left: FOUND, PAIRS, STOPS, the walk, LETTERS, and what they were sorted to. */
    private static final class Desk {
        int fault = NONE;
        int ended = NONE;
        int found;
        int pairs;
        int stops;
        int walked;
        int letters;
        int sorted;
        final int[] foundDoor = new int[MAX_DOORS];
        final int[] foundSure = new int[MAX_DOORS];
        final int[] foundRank = new int[MAX_DOORS];
        final int[] pairA = new int[MAX_SLOTS];
        final int[] pairB = new int[MAX_SLOTS];
        final int[] pairWhole = new int[MAX_SLOTS];
        final int[] stopStreet = new int[MAX_STOPS];
        final int[] stopWay = new int[MAX_STOPS];
        final int[] walkedDoor = new int[MAX_DOORS];
        final int[] letterDoor = new int[MAX_LETTERS];
        final int[] sortedLetter = new int[MAX_LETTERS];
        final int[] sortedDoor = new int[MAX_LETTERS];

        void copyFrom(Desk other) {
            fault = other.fault;
            ended = other.ended;
            found = other.found;
            pairs = other.pairs;
            stops = other.stops;
            walked = other.walked;
            letters = other.letters;
            sorted = other.sorted;
            System.arraycopy(other.foundDoor, 0, foundDoor, 0, found);
            System.arraycopy(other.foundSure, 0, foundSure, 0, found);
            System.arraycopy(other.pairA, 0, pairA, 0, pairs);
            System.arraycopy(other.pairB, 0, pairB, 0, pairs);
            System.arraycopy(other.stopStreet, 0, stopStreet, 0, stops);
            System.arraycopy(other.stopWay, 0, stopWay, 0, stops);
            System.arraycopy(other.walkedDoor, 0, walkedDoor, 0, walked);
            System.arraycopy(other.letterDoor, 0, letterDoor, 0, letters);
            System.arraycopy(other.sortedLetter, 0, sortedLetter, 0, sorted);
            System.arraycopy(other.sortedDoor, 0, sortedDoor, 0, sorted);
        }

        void addFound(int door, int sure, int rank) {
            if (found >= MAX_DOORS) {
                return;
            }
            int at = found;
            while (at > 0 && foundRank[at - 1] > rank) {
                foundDoor[at] = foundDoor[at - 1];
                foundSure[at] = foundSure[at - 1];
                foundRank[at] = foundRank[at - 1];
                at--;
            }
            foundDoor[at] = door;
            foundSure[at] = sure;
            foundRank[at] = rank;
            found++;
        }

        /** Keeps the pairs from a first one on by their wholes. */
        void addPair(int doorA, int doorB, int whole, int first) {
            if (pairs >= MAX_SLOTS) {
                return;
            }
            int at = pairs;
            while (at > first && at > 0 && pairWhole[at - 1] > whole) {
                pairA[at] = pairA[at - 1];
                pairB[at] = pairB[at - 1];
                pairWhole[at] = pairWhole[at - 1];
                at--;
            }
            pairA[at] = doorA;
            pairB[at] = doorB;
            pairWhole[at] = whole;
            pairs++;
        }

        int addStop(int street, int way) {
            if (stops < MAX_STOPS) {
                stopStreet[stops] = street;
                stopWay[stops] = way;
                stops++;
            }
            return stops;
        }

        void addWalked(int door) {
            if (walked < MAX_DOORS) {
                walkedDoor[walked] = door;
                walked++;
            }
        }

        int whenWalked(int door) {
            for (int i = 0; i < walked; i++) {
                if (walkedDoor[i] == door) {
                    return i;
                }
            }
            return NONE;
        }

        int addLetter(int door) {
            if (letters < MAX_LETTERS) {
                letterDoor[letters] = door;
                letters++;
            }
            return letters;
        }

        int sortLetters() {
            sorted = 0;
            for (int when = 0; when < walked; when++) {
                sortLettersOf(walkedDoor[when]);
            }
            for (int i = 0; i < letters; i++) {
                if (whenWalked(letterDoor[i]) == NONE) {
                    addSorted(i);
                }
            }
            letters = 0;
            return sorted;
        }

        private void sortLettersOf(int door) {
            for (int i = 0; i < letters; i++) {
                if (letterDoor[i] == door) {
                    addSorted(i);
                }
            }
        }

        private void addSorted(int letter) {
            if (sorted < MAX_LETTERS) {
                sortedLetter[sorted] = letter;
                sortedDoor[sorted] = letterDoor[letter];
                sorted++;
            }
        }
    }

    /** All that an image keeps. */
    private static final class Office {
        final Papers papers = new Papers();
        final NumberSpans numbers = new NumberSpans();
        final NameSpans names = new NameSpans();
        final Streets streets = new Streets();
        final Doors doors = new Doors();
        final ShortForms shortForms = new ShortForms();
        final Desk desk = new Desk();

        void copyFrom(Office other) {
            papers.copyFrom(other.papers);
            numbers.copyFrom(other.numbers);
            names.copyFrom(other.names);
            streets.copyFrom(other.streets);
            doors.copyFrom(other.doors);
            shortForms.copyFrom(other.shortForms);
            desk.copyFrom(other.desk);
        }

        boolean hasRoomForNumbers(int more) {
            return papers.hasRoom() && numbers.n + more <= MAX_NUMBER_SPANS;
        }

        int earliestOn(int street) {
            return papers.latestOn(street, names.townOf(street));
        }

        int earliestOnTown(int town) {
            int earliest = papers.latestOn(NONE, town);
            for (int street = 0; street < streets.n; street++) {
                if (names.townOf(street) == town) {
                    earliest = Math.max(earliest, papers.latestOn(street, NONE));
                }
            }
            return earliest;
        }

        int earliestOnDoor(int door) {
            int slot = slotOf(door);
            int second = doors.streetOf(slot + 1);
            int earliest = earliestOn(doors.streetOf(slot));
            return second == NONE ? earliest : Math.max(earliest, earliestOn(second));
        }

        int layOnDoor(int door, int from) {
            int slot = slotOf(door);
            return papers.lay(from, doors.streetOf(slot), doors.streetOf(slot + 1));
        }

        private int slotOf(int door) {
            return doors.isDoor(door) ? 2 * doors.front[door] : 0;
        }

        boolean isOpenKnownNumberIn(int span, int street) {
            return numbers.closed[span] == NONE && numbers.whole[span] != UNKNOWN
                && doors.streetOf(numbers.slot[span]) == street;
        }

        /** For each slot the whole that it has on a day, or NONE. */
        void setWholesOn(int day, int[] wholes) {
            Arrays.fill(wholes, NONE);
            for (int i = 0; i < numbers.n; i++) {
                int slot = numbers.slot[i];
                boolean isThen = papers.holds(numbers.opened[i], numbers.closed[i], day);
                if (isThen && slot >= 0 && slot < wholes.length) {
                    wholes[slot] = numbers.whole[i];
                }
            }
        }

        /** Brings the last door walked to its place, by sort and number, among those from a first one on. */
        void sinkWalked(int first) {
            int at = desk.walked - 1;
            while (at > first && at > 0 && rankUnder(desk.walkedDoor[at - 1]) > rankUnder(desk.walkedDoor[at])) {
                int door = desk.walkedDoor[at];
                desk.walkedDoor[at] = desk.walkedDoor[at - 1];
                desk.walkedDoor[at - 1] = door;
                at--;
            }
        }

        private int rankUnder(int door) {
            return doors.isDoor(door) ? doors.sort[door] * 100 + doors.k[door] : 0;
        }

        int takeBackLatest() {
            int paper = papers.n - 1;
            if (paper < 0) {
                return NONE;
            }
            if (papers.ruleBefore[paper] != NONE) {
                streets.setRule(papers.streetA[paper], papers.ruleBefore[paper]);
            }
            numbers.takeBack(paper);
            names.takeBack(paper);
            streets.takeBack(paper);
            doors.takeBack(paper);
            papers.n = paper;
            return paper;
        }
    }

    /** The doors that have numbers in a street, now or on a day, in an order. */
    private static final class StreetView {
        int n;
        private int rule;
        private int order;
        final int[] span = new int[MAX_DOORS];
        final int[] slot = new int[MAX_DOORS];
        final int[] whole = new int[MAX_DOORS];
        final int[] side = new int[MAX_DOORS];
        final int[] paces = new int[MAX_DOORS];
        private final int[] rank = new int[MAX_DOORS];

        /** By open spans, all papers being there, if the day is NONE. */
        void fill(Office office, int street, int day, int newOrder) {
            n = 0;
            rule = office.streets.ruleOf(street);
            order = newOrder;
            NumberSpans numbers = office.numbers;
            for (int i = 0; i < numbers.n; i++) {
                if (office.doors.streetOf(numbers.slot[i]) == street && isThen(office, i, day)) {
                    add(office.doors, numbers.slot[i], numbers.whole[i], i);
                }
            }
        }

        private static boolean isThen(Office office, int i, int day) {
            int closed = office.numbers.closed[i];
            return day == NONE ? closed == NONE : office.papers.holds(office.numbers.opened[i], closed, day);
        }

        private void add(Doors doors, int newSlot, int newWhole, int newSpan) {
            if (n >= MAX_DOORS) {
                return;
            }
            int newRank = rankOf(doors.side[newSlot], doors.paces[newSlot]);
            int at = n;
            while (at > 0 && rank[at - 1] > newRank) {
                moveUp(at);
                at--;
            }
            span[at] = newSpan;
            slot[at] = newSlot;
            whole[at] = newWhole;
            side[at] = doors.side[newSlot];
            paces[at] = doors.paces[newSlot];
            rank[at] = newRank;
            n++;
        }

        private void moveUp(int at) {
            span[at] = span[at - 1];
            slot[at] = slot[at - 1];
            whole[at] = whole[at - 1];
            side[at] = side[at - 1];
            paces[at] = paces[at - 1];
            rank[at] = rank[at - 1];
        }

        private int rankOf(int askedSide, int askedPaces) {
            switch (order) {
                case ALONG_RING:
                    return askedSide == 0 ? askedPaces : SIDE_STEP - askedPaces;
                case RISING:
                    return 2 * askedPaces + askedSide;
                case FALLING:
                    return -2 * askedPaces - askedSide;
                default:
                    return askedSide * SIDE_STEP + askedPaces;
            }
        }

        /** Whether numbers rise over both: on one side, or along the ring. */
        private boolean isInLine(int i, int askedSide) {
            return order == ALONG_RING || side[i] == askedSide;
        }

        int indexOf(int askedWhole) {
            for (int i = 0; i < n; i++) {
                if (whole[i] == askedWhole) {
                    return i;
                }
            }
            return NONE;
        }

        boolean hasDoorAt(int askedSide, int askedPaces) {
            for (int i = 0; i < n; i++) {
                if (side[i] == askedSide && paces[i] == askedPaces) {
                    return true;
                }
            }
            return false;
        }

        private int lowAt(int askedSide, int askedRank) {
            int low = 0;
            for (int i = 0; i < n; i++) {
                if (rank[i] < askedRank && whole[i] != UNKNOWN && isInLine(i, askedSide)) {
                    low = whole[i];
                }
            }
            return low;
        }

        private int highAt(int askedSide, int askedRank) {
            for (int i = 0; i < n; i++) {
                if (rank[i] > askedRank && whole[i] != UNKNOWN && isInLine(i, askedSide)) {
                    return whole[i];
                }
            }
            return ABOVE_ALL;
        }

        /** The told whole if it is a candidate, the LEAST NUMBER if none is told; NONE if there is none. */
        int fittingNumber(int askedSide, int askedPaces, int told) {
            int askedRank = rankOf(askedSide, askedPaces);
            int low = lowAt(askedSide, askedRank);
            int high = highAt(askedSide, askedRank);
            if (told != 0) {
                boolean isFit = told > low && told < high && isFreeByRule(told, askedSide, askedPaces);
                return isFit ? told : NONE;
            }
            int first = low / 16;
            int last = Math.min(MOST_DIGITS, high / 16);
            if (rule == PACES) {
                first = digitsByPaces(askedSide, askedPaces);
                last = first;
            }
            for (int letter = 0; letter <= MOST_LETTER; letter++) {
                for (int digits = Math.max(1, first); digits <= last; digits++) {
                    int next = 16 * digits + letter;
                    if (next > low && next < high && isFreeByRule(next, askedSide, askedPaces)) {
                        return next;
                    }
                }
            }
            return NONE;
        }

        private boolean isFreeByRule(int asked, int askedSide, int askedPaces) {
            int digits = asked / 16;
            if (rule == SIDES && !areDigitsOfSide(digits, askedSide)) {
                return false;
            }
            if (rule == PACES && digits != digitsByPaces(askedSide, askedPaces)) {
                return false;
            }
            return indexOf(asked) == NONE;
        }

        /** Whether a door of UNKNOWN number could have a number. */
        boolean couldHave(int i, int asked) {
            if (whole[i] != UNKNOWN || rule == SIDES && !areDigitsOfSide(asked / 16, side[i])) {
                return false;
            }
            return asked > lowAt(side[i], rank[i]) && asked < highAt(side[i], rank[i]);
        }

        /** By the gap, then by side and paces, even where the gap was counted along the ring. */
        int likelyRankOf(int i) {
            return (2 * unknownInGapOf(i) + side[i]) * SIDE_STEP + paces[i];
        }

        private int unknownInGapOf(int i) {
            int unknown = 1;
            for (int j = i - 1; j >= 0 && isInGap(j, i); j--) {
                unknown++;
            }
            for (int j = i + 1; j < n && isInGap(j, i); j++) {
                unknown++;
            }
            return unknown;
        }

        private boolean isInGap(int j, int i) {
            return whole[j] == UNKNOWN && isInLine(j, side[i]);
        }
    }
}

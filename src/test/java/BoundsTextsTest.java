/** Terms II: NAMES, SHORT forms, ADDRESSES as written and the place of a FAULT; each sentence has a test of its own. */
public final class BoundsTextsTest {
    private static final String TWELVE = "abcdefghijkl";
    private static final int[] SOME_BYTES = {0, ' ', '*', '+', ',', '-', '/', '0', '1', '9', ':', 'A', 'Z', '`', 'a', 'b', 'c', 'f',
        'h', 'i', 'k', 'r', 't', 'z', '{', 127, 128, 225, 255};
    private static final Checks c = new Checks();

    /** A call that asks for a NAME. */
    private interface Named {
        int by(DoorOffice x, String name);
    }

    public static void main(String[] args) {
        wordsOfNames();
        lettersOfNames();
        blanksOfNames();
        namesOfTwelveLetters();
        shortFormsUpTo20();
        shortFormsReadOnce();
        shortFormsInEachName();
        shortFormsInAddresses();
        shortFormsAsTheyStand();
        partsOfAddresses();
        endsTooSoon();
        thirteenthLetters();
        fourthWords();
        fifthDigits();
        thirdDigitsOfExtra();
        firstDigits();
        lettersOfNumbers();
        otherBytesEverywhere();
        bytesPutBetweenAndLeftOut();
        wholesInOrder();
        c.finish();
    }

    private static DoorOffice office() {
        DoorOffice x = Checks.withStreet(3);
        x.door(0, 0, 10, 0, 0);
        return x;
    }

    private static void dueName(String name, boolean isName) {
        Named[] calls = {
            (x, text) -> Checks.town(x, text),
            (x, text) -> Checks.street(x, text, 0, 0, 0),
            (x, text) -> Checks.rename(x, text, 0, 0)};
        String[] names = {"town", "street", "rename"};
        for (int i = 0; i < calls.length; i++) {
            c.due(names[i] + " '" + name + "'", calls[i].by(office(), name), isName ? 1 : -2);
        }
    }

    private static void wordsOfNames() {
        c.sentence("NAMES are one to three WORDS");
        dueName("", false);
        dueName("b", true);
        dueName("b c", true);
        dueName("b c d", true);
        dueName("b c d e", false);
        dueName("b b b", true);
        dueName("b b b b", false);
    }

    private static void lettersOfNames() {
        c.sentence("WORDS, each 1 to 12 letters a .. z");
        for (int value = 0; value < 256; value++) {
            String letter = "" + (char) value;
            boolean isLetter = value >= 'a' && value <= 'z';
            c.due("town of byte " + value, Checks.town(office(), letter), isLetter ? 1 : -2);
            c.due("town with byte " + value, Checks.town(office(), "b" + letter + "b"), isLetter || value == ' ' ? 1 : -2);
        }
        String[] before = {"", "b ", "b c "};
        for (String words : before) {
            dueName(words + TWELVE, true);
            dueName(words + TWELVE + "m", false);
        }
        dueName(TWELVE + " " + TWELVE + " " + TWELVE, true);
        dueName(TWELVE + "m " + TWELVE + " " + TWELVE, false);
        dueName(TWELVE + " " + TWELVE + "m " + TWELVE, false);
        dueName(TWELVE + " " + TWELVE + " " + TWELVE + "m", false);
    }

    private static void blanksOfNames() {
        c.sentence("one blank between two of them where they are written");
        String[] wrong = {" ", " b", "b ", "b  c", "b c ", "b c d ", " b c", "b  ", "b c  d", "  b"};
        for (String name : wrong) {
            dueName(name, false);
        }
    }

    private static void namesOfTwelveLetters() {
        c.sentence("each 1 to 12 letters: names that are alike but for one letter are not the same");
        DoorOffice x = new DoorOffice();
        String[] names = {"a", "aa", "aaa", "aaaaaaaaaaaa", "zzzzzzzzzzzz", "zzzzzzzzzzzy", "a a", "a a a"};
        for (int i = 0; i < names.length; i++) {
            c.due("town '" + names[i] + "'", Checks.town(x, names[i]), i);
        }
        for (String name : names) {
            c.due("town '" + name + "' again", Checks.town(x, name), -5);
        }
    }

    private static int shorten(DoorOffice x, String text) {
        return Checks.tell(x, text).shorten();
    }

    private static void shortFormsUpTo20() {
        c.sentence("SHORT forms, up to 20");
        DoorOffice x = new DoorOffice();
        for (int i = 0; i < 20; i++) {
            c.due("short form " + (i + 1), shorten(x, "a" + (char) ('a' + i) + " b"), i + 1);
        }
        c.due("a 21st", shorten(x, "zz b"), -6);
        c.due("still 20", x.count(6), 20);
        c.due("the 20th anew", shorten(x, "at c"), 20);
        c.due("the 21st is read as it stands", Checks.town(x, "zz"), 0);
        c.due("the 20th is read", Checks.town(x, "at"), 1);
        c.due("the 20th is read", Checks.town(x, "c"), -5);
        c.due("the first is read", Checks.town(x, "aa"), 2);
        c.due("the first is read", Checks.town(x, "b"), -5);
    }

    private static void shortFormsReadOnce() {
        c.sentence("a WORD that is a SHORT form is read as what it is for (once)");
        DoorOffice x = new DoorOffice();
        shorten(x, "a b");
        shorten(x, "b c");
        shorten(x, "c a");
        shorten(x, "d d");
        c.due("a is b", Checks.town(x, "a"), 0);
        c.due("b is c", Checks.town(x, "b"), 1);
        c.due("c is a", Checks.town(x, "c"), 2);
        c.due("d is d", Checks.town(x, "d"), 3);
        c.due("d is d", Checks.town(x, "d"), -5);
        Checks.street(x, "a b c", 0, 3, 0);
        x.door(0, 0, 10, 0, 0);
        x.write(0, 0, 0);
        c.due("a b c in a is", Checks.out(x), "b c a 1, b");
    }

    private static void shortFormsInEachName() {
        c.sentence("in NAMES that are told a WORD that is a SHORT form is read as what it is for");
        DoorOffice x = new DoorOffice();
        shorten(x, "st street");
        shorten(x, "n north");
        Checks.town(x, "n st");
        c.due("town, as it is for", Checks.town(x, "north street"), -5);
        Checks.street(x, "st n st", 0, 3, 0);
        c.due("street, as it is for", Checks.street(x, "street north street", 0, 3, 0), -5);
        x.door(0, 0, 10, 0, 0);
        x.write(0, 0, 0);
        c.due("written", Checks.out(x), "street north street 1, north street");
        Checks.rename(x, "n elm st", 0, 0);
        c.due("rename, as it is for", Checks.street(x, "north elm street", 0, 3, 0), -5);
        x.write(0, 0, 0);
        c.due("written", Checks.out(x), "north elm street 1, north street");
        c.due("a short form is taken anew", shorten(x, "st stairs"), 2);
        x.write(0, 0, 0);
        c.due("what was told stays", Checks.out(x), "north elm street 1, north street");
        c.due("a part of a word is not read", Checks.town(x, "sta"), 1);
        c.due("a part of a word is not read", Checks.town(x, "stairsa"), 2);
    }

    private static void shortFormsInAddresses() {
        c.sentence("is read as what it is for (once), as in ADDRESSES");
        DoorOffice x = new DoorOffice();
        Checks.town(x, "old");
        Checks.street(x, "elm", 0, 3, 0);
        x.door(0, 0, 10, 0, 0);
        c.due("as it stands", Checks.means(x, "e 1, old", 0), 0);
        shorten(x, "e elm");
        shorten(x, "o old");
        shorten(x, "oo o");
        c.due("in the street", Checks.means(x, "e 1, old", 0), 1);
        c.due("in the town", Checks.means(x, "elm 1, o", 0), 1);
        c.due("in both", Checks.means(x, "e 1, o", 0), 1);
        c.due("once", Checks.means(x, "e 1, oo", 0), 0);
        c.due("in a call", Checks.call(x, "e 1, o", 0), 0);
        c.due("in a letter", Checks.letter(x, "e 1, o", 0), 1);
        c.due("back is no WORD", shorten(x, "back court"), 4);
        x.under(2, 0, 0, 0);
        c.due("EXTRA is not read so", Checks.means(x, "e 1 back, o", 0), 1);
    }

    private static void shortFormsAsTheyStand() {
        c.sentence("SHORT forms are a WORD and what WORD it is for");
        DoorOffice x = new DoorOffice();
        String[] wrong = {"", " ", "a", "a ", " a", "a  b", " a b", "a b ", "a b c", "a-b", "A b", "a B", "a 1",
            TWELVE + "m b", "b " + TWELVE + "m"};
        for (String text : wrong) {
            c.due("shorten '" + text + "'", shorten(x, text), -2);
        }
        c.due("none", x.count(6), 0);
        c.due("twelve letters each", shorten(x, TWELVE + " " + TWELVE), 1);
        c.due("one letter each", shorten(x, "a b"), 2);
        c.due("the same twice", shorten(x, "a b"), 2);
        c.due("what it is for is told as it stands", shorten(x, "q a"), 3);
        c.due("q is a", Checks.town(x, "q"), 0);
        c.due("a is b", Checks.town(x, "a"), 1);
    }

    /** The answers of all three calls that ask for an ADDRESS, and the place of its FAULT. */
    private static void dueFault(DoorOffice x, String text, int place) {
        c.due("means '" + text + "'", Checks.means(x, text, 0) == -2, place >= 0);
        c.due("fault of '" + text + "'", x.fault(), place);
    }

    private static void dueFault(String text, int place) {
        DoorOffice x = office();
        dueFault(x, text, place);
        x.fault();
        c.due("call '" + text + "'", Checks.call(x, text, 0) == -2, place >= 0);
        c.due("fault of the call '" + text + "'", x.fault(), place);
        Checks.means(x, "elm 1, old", 0);
        c.due("letter '" + text + "'", Checks.letter(x, text, 0) == -2, place >= 0);
        c.due("fault of the letter '" + text + "'", x.fault(), place);
    }

    private static void partsOfAddresses() {
        c.sentence("WORDS (1 to 3), a blank, a NUMBER, perhaps EXTRA, a comma, a blank, WORDS (1 to 3)");
        String[] streets = {"a", "a b", "a b c", TWELVE + " " + TWELVE + " " + TWELVE, "back", "court floor back"};
        String[] numbers = {"1", "9", "10", "99", "100", "999", "1000", "9999", "1a", "9999h", "9999+", "1+"};
        String[] extras = {"", " back", " court 1", " court 9", " court 10", " court 99", " floor 1", " floor 99"};
        for (String street : streets) {
            for (String number : numbers) {
                for (String extra : extras) {
                    DoorOffice x = new DoorOffice();
                    dueFault(x, street + " " + number + extra + ", " + street, -1);
                }
            }
        }
        dueFault("a 1; b", 3);
        dueFault("a 1,, b", 4);
        dueFault("a 1 b", 5);
        dueFault("a 1, b,", 6);
        dueFault("a 1, b 1", 7);
        dueFault("a 1 1, b", 4);
        dueFault("a 1, 1", 5);
        dueFault("a, b", 1);
    }

    private static void endsTooSoon() {
        c.sentence("FAULT at the first byte with which no ADDRESS goes on (its length, if it ends too soon)");
        String[] texts = {"abc de f 12a court 12, gh i jkl", "a 1 back, b", "a b 1+ floor 9, c"};
        for (String text : texts) {
            int comma = text.indexOf(',');
            for (int n = 0; n < text.length(); n++) {
                boolean isWhole = n > comma + 2 && text.charAt(n - 1) != ' ';
                dueFault(text.substring(0, n), isWhole ? -1 : n);
            }
            dueFault(text, -1);
        }
    }

    private static void thirteenthLetters() {
        c.sentence("a 13th letter");
        String[] before = {"", "b ", "b c "};
        for (String words : before) {
            dueFault(words + TWELVE + " 1, old", -1);
            dueFault(words + TWELVE + "m 1, old", words.length() + 12);
            dueFault(words + TWELVE + "m", words.length() + 12);
            String town = "elm 1, " + words + TWELVE;
            dueFault(town, -1);
            dueFault(town + "m", town.length());
            dueFault(town + "m n", town.length());
        }
    }

    private static void fourthWords() {
        c.sentence("the first one of a fourth WORD of a street, the blank behind a third one of a town");
        dueFault("a b c d 1, old", 6);
        dueFault("a b c d", 6);
        dueFault("a b c ", 6);
        dueFault("abc def ghi jkl 1, old", 12);
        dueFault("elm 1, a b c", -1);
        dueFault("elm 1, a b c ", 12);
        dueFault("elm 1, a b c d", 12);
        dueFault("elm 1, abc def ghi jkl", 18);
    }

    private static void fifthDigits() {
        c.sentence("a fifth digit");
        dueFault("elm 1234, old", -1);
        dueFault("elm 12345, old", 8);
        dueFault("elm 10000, old", 8);
        dueFault("elm 12345", 8);
        dueFault("elm 1234a5, old", 9);
    }

    private static void thirdDigitsOfExtra() {
        c.sentence("of EXTRA a third one, too");
        String[] extras = {"court", "floor"};
        for (String extra : extras) {
            dueFault("elm 1 " + extra + " 12, old", -1);
            dueFault("elm 1 " + extra + " 123, old", 14);
            dueFault("elm 1 " + extra + " 100", 14);
        }
    }

    private static void firstDigits() {
        c.sentence("digits, the first no 0");
        dueFault("elm 0, old", 4);
        dueFault("elm 01, old", 4);
        dueFault("elm 10, old", -1);
        dueFault("elm 1 court 0, old", 12);
        dueFault("elm 1 court 01, old", 12);
        dueFault("elm 1 court 10, old", -1);
        dueFault("elm 1 floor 0, old", 12);
        dueFault("elm 1 floor 90, old", -1);
    }

    private static void lettersOfNumbers() {
        c.sentence("perhaps right behind them a letter a .. h or +");
        for (int value = 0; value < 256; value++) {
            boolean isLetter = value >= 'a' && value <= 'h' || value == '+';
            boolean isDigit = value >= '0' && value <= '9';
            int place = isLetter || isDigit ? -1 : value == ' ' ? 6 : value == ',' ? 6 : 5;
            dueFault(office(), "elm 1" + (char) value + ", old", place);
        }
        dueFault("elm 1 a, old", 6);
        dueFault("elm 1aa, old", 6);
        dueFault("elm 1a+, old", 6);
        dueFault("elm a, old", 5);
        dueFault("elm +, old", 4);
        dueFault("elm 1234h, old", -1);
        dueFault("elm 1234i, old", 8);
    }

    private static final String[] WHOLE = {"ab cd ef 1234h court 12, gh ij kl", "a 1, b", TWELVE + " 9+ floor 9, " + TWELVE,
        "a b 10 back, c d"};

    private static void otherBytesEverywhere() {
        c.sentence("Other bytes: there is no such ADDRESS: FAULT at the first byte with which no ADDRESS goes on");
        for (String text : WHOLE) {
            for (int at = 0; at < text.length(); at++) {
                DoorOffice x = new DoorOffice();
                for (int value : SOME_BYTES) {
                    String changed = text.substring(0, at) + (char) value + text.substring(at + 1);
                    dueFault(x, changed, Model.faultOf(changed));
                }
            }
        }
    }

    private static void bytesPutBetweenAndLeftOut() {
        c.sentence("more blanks: there is no such ADDRESS");
        for (String text : WHOLE) {
            for (int at = 0; at <= text.length(); at++) {
                DoorOffice x = new DoorOffice();
                for (int value : SOME_BYTES) {
                    String changed = text.substring(0, at) + (char) value + text.substring(at);
                    dueFault(x, changed, Model.faultOf(changed));
                }
                if (at < text.length()) {
                    String changed = text.substring(0, at) + text.substring(at + 1);
                    dueFault(x, changed, Model.faultOf(changed));
                }
            }
        }
    }

    private static void wholesInOrder() {
        c.sentence("NUMBERS as wholes: 16 times the digits, and 0, 1 .. 8 for a .. h, 9 for +: they are in this order");
        String[] numbers = {"1", "1a", "1b", "1c", "1d", "1e", "1f", "1g", "1h", "1+", "2", "2a", "9h", "10", "99+", "100", "101d",
            "999", "1000", "1001", "1010b", "9009", "9999", "9999+"};
        int[] wholes = {16, 17, 18, 19, 20, 21, 22, 23, 24, 25, 32, 33, 152, 160, 1593, 1600, 1620,
            15984, 16000, 16016, 16162, 144144, 159984, 159993};
        DoorOffice x = Checks.withStreet(3);
        for (int i = 0; i < wholes.length; i++) {
            c.due("door " + numbers[i], x.door(0, 0, 10 * i, wholes[i], 0), i);
            c.due("not the same once more", x.door(0, 0, 10 * i + 1, wholes[i], 0), -4);
        }
        for (int i = 0; i < wholes.length; i++) {
            x.write(i, 0, 0);
            c.due("written", Checks.out(x), "elm " + numbers[i] + ", old");
            c.due("read", Checks.call(x, "elm " + numbers[i] + ", old", 0), i);
        }
    }
}

import java.nio.charset.StandardCharsets;

/** What the tests share: answers held against those that are due, and texts put on the tape. */
final class Checks {
    private int wrong = 0;
    private int held = 0;
    private String sentence = "";

    /** The sentence of the document that the next answers are held against. */
    void sentence(String text) {
        sentence = text + " | ";
    }

    void due(String call, long got, long want) {
        held++;
        if (got != want) {
            wrong++;
            System.out.println(sentence + call + " answered " + got + ", due is " + want);
        }
    }

    void due(String call, boolean got, boolean want) {
        due(call, got ? 1 : 0, want ? 1 : 0);
    }

    void due(String call, String got, String want) {
        held++;
        if (!got.equals(want)) {
            wrong++;
            System.out.println(sentence + call + " answered '" + got + "', due is '" + want + "'");
        }
    }

    void finish() {
        System.out.println(held + " answers, " + wrong + " wrong");
        if (wrong > 0) {
            System.exit(1);
        }
    }

    /** The tape is this text, and nothing else. */
    static DoorOffice tell(DoorOffice x, String text) {
        return tell(x, text.getBytes(StandardCharsets.ISO_8859_1));
    }

    static DoorOffice tell(DoorOffice x, byte[] text) {
        x.end(0);
        for (int i = 0; i < text.length; i += 20) {
            x.feed(four(text, i), four(text, i + 4), four(text, i + 8), four(text, i + 12), four(text, i + 16));
        }
        x.end(text.length);
        return x;
    }

    private static int four(byte[] text, int at) {
        int value = 0;
        for (int i = at; i < at + 4; i++) {
            value = value << 8 | (i < text.length ? text[i] & 255 : ' ');
        }
        return value;
    }

    static byte[] wholes(int... wholes) {
        byte[] bytes = new byte[2 * wholes.length];
        for (int i = 0; i < wholes.length; i++) {
            bytes[2 * i] = (byte) (wholes[i] >> 8);
            bytes[2 * i + 1] = (byte) wholes[i];
        }
        return bytes;
    }

    static byte[] bytes(int... values) {
        byte[] bytes = new byte[values.length];
        for (int i = 0; i < values.length; i++) {
            bytes[i] = (byte) values[i];
        }
        return bytes;
    }

    /** What is asked by a number from 0 on, up to the first NONE; each is asked once, as calls are counted. */
    private interface Item {
        int at(int i);
    }

    private static String items(Item first, Item second, String between) {
        StringBuilder text = new StringBuilder();
        int item = first.at(0);
        for (int i = 0; item != DoorOffice.NONE; i++) {
            text.append(i == 0 ? "" : " ").append(item);
            if (second != null) {
                text.append(between).append(second.at(i));
            }
            item = first.at(i + 1);
        }
        return text.toString();
    }

    /** OUT as a text. */
    static String out(DoorOffice x) {
        StringBuilder text = new StringBuilder();
        int next = x.out(0);
        while (next != DoorOffice.NONE) {
            text.append((char) next);
            next = x.out(text.length());
        }
        return text.toString();
    }

    /** The doors FOUND, each with ! if it is SURE. */
    static String found(DoorOffice x) {
        return items(i -> x.found(i, 0), i -> x.found(i, 1), "?").replace("?0", "").replace("?1", "!");
    }

    static String walked(DoorOffice x) {
        return items(i -> x.walked(i), null, "");
    }

    static String pairs(DoorOffice x) {
        return items(i -> x.pair(i, 0), i -> x.pair(i, 1), "-");
    }

    static String sorted(DoorOffice x) {
        return items(i -> x.sorted(i, 0), i -> x.sorted(i, 1), ">");
    }

    /** Papers on a street that change nothing but their own number, until there are so many. */
    static void fillPapers(DoorOffice x, int street, int rule, int from, int many) {
        int there = x.count(3);
        for (int i = there; i < many; i++) {
            x.renumber(street, rule, from);
        }
    }

    static int town(DoorOffice x, String name) {
        return tell(x, name).town();
    }

    static int street(DoorOffice x, String name, int town, int rule, int from) {
        return tell(x, name).street(town, rule, from);
    }

    static int rename(DoorOffice x, String name, int street, int from) {
        return tell(x, name).rename(street, from);
    }

    static int means(DoorOffice x, String address, int day) {
        return tell(x, address).means(day);
    }

    static int call(DoorOffice x, String address, int day) {
        return tell(x, address).call(day);
    }

    static int letter(DoorOffice x, String address, int day) {
        return tell(x, address).letter(day);
    }

    /** A new office with the town old (0) and the street elm (0) in it from day 0 on. */
    static DoorOffice withStreet(int rule) {
        DoorOffice x = new DoorOffice();
        town(x, "old");
        street(x, "elm", 0, rule, 0);
        return x;
    }
}

import java.lang.reflect.Constructor;
import java.lang.reflect.Field;
import java.lang.reflect.Method;
import java.lang.reflect.Modifier;
import java.nio.file.Files;
import java.nio.file.Path;
import java.util.Set;
import java.util.TreeSet;

/** The public face and the rules of the language that a text or a class file shows, and wild numbers for every call. */
public final class FaceTest {
    private static final String[] FACE = {
        "int feed 5", "boolean end 1", "int take 0", "boolean day 1", "boolean as 1", "int town 0", "int shorten 0",
        "int street 3", "int door 5", "int corner 6", "int under 4", "int gone 2", "int renumber 3", "int rename 2",
        "int join 3", "int row 2", "int tear 3", "int undo 0", "boolean image 1", "boolean back 1", "int about 2",
        "boolean stands 2", "int number 4", "int write 3", "int means 1", "int fault 0", "int found 2", "int call 1",
        "int ended 0", "int twice 3", "int pair 2", "int free 3", "int near 4", "int stop 2", "int walk 1", "int walked 1",
        "int letter 1", "int sort 0", "int sorted 2", "int list 1", "int check 1", "int out 1", "int count 1"};
    private static final int[] WILD = {Integer.MIN_VALUE, Integer.MAX_VALUE, -2, -1, 0, 1, 2, 3, 99, 100, 109574, 109575};
    private static final Checks c = new Checks();

    public static void main(String[] args) throws Exception {
        face();
        language();
        wildNumbers();
        c.finish();
    }

    private static void face() {
        Set<String> want = new TreeSet<>(Set.of(FACE));
        Set<String> got = new TreeSet<>();
        Set<String> publicNames = new TreeSet<>();
        for (Method m : DoorOffice.class.getDeclaredMethods()) {
            if (!Modifier.isPrivate(m.getModifiers())) {
                got.add(m.getReturnType() + " " + m.getName() + " " + m.getParameterCount());
                publicNames.add(m.getName());
                c.due(m.getName() + " is public, not static", Modifier.isPublic(m.getModifiers()) && !Modifier.isStatic(m.getModifiers()), true);
            }
        }
        c.due("methods", got.toString(), want.toString());
        c.due("final", Modifier.isFinal(DoorOffice.class.getModifiers()), true);
        for (Field f : DoorOffice.class.getDeclaredFields()) {
            boolean isNone = f.getName().equals("NONE");
            c.due("field " + f.getName(), Modifier.isPublic(f.getModifiers()), isNone);
            c.due("field " + f.getName(), Modifier.isPrivate(f.getModifiers()), !isNone);
            if (Modifier.isStatic(f.getModifiers())) {
                c.due("static field " + f.getName() + " is final", Modifier.isFinal(f.getModifiers()), true);
            }
        }
        Constructor<?>[] constructors = DoorOffice.class.getDeclaredConstructors();
        c.due("constructors", constructors.length, 1);
        c.due("constructor", Modifier.isPublic(constructors[0].getModifiers()) && constructors[0].getParameterCount() == 0, true);
        int classes = 1;
        for (Class<?> inner : DoorOffice.class.getDeclaredClasses()) {
            classes++;
            c.due(inner + " is static", Modifier.isStatic(inner.getModifiers()), true);
            for (Method m : inner.getDeclaredMethods()) {
                c.due(m + " has a name of its own", publicNames.contains(m.getName()), false);
            }
            c.due(inner + " has few fields", inner.getDeclaredFields().length <= 22, true);
        }
        for (Method m : DoorOffice.class.getDeclaredMethods()) {
            boolean bears = Modifier.isPrivate(m.getModifiers()) && publicNames.contains(m.getName());
            c.due("private " + m.getName() + " bears a public name", bears, false);
        }
        c.due("at most twelve classes", classes <= 12, true);
    }

    private static void language() throws Exception {
        String text = Files.readString(Path.of("src/main/java/DoorOffice.java"));
        StringBuilder code = new StringBuilder();
        boolean isComment = false;
        for (String line : text.split("\n")) {
            String trimmed = line.trim();
            isComment |= trimmed.startsWith("/**");
            if (!isComment && !trimmed.startsWith("//")) {
                code.append(trimmed).append('\n');
            }
            isComment &= !trimmed.endsWith("*/");
            c.due("no line is too long: " + line, line.length() <= 120, true);
        }
        for (String word : new String[] {"throw", "try", "catch", "synchronized", "assert", "package", "protected", "lambda",
            "static {", "->", "::", "Exact(", ".equals(", "hashCode", "toString", "instanceof", "\" +", "+ \"", "float", "double"}) {
            c.due("the code has no '" + word + "'", code.indexOf(word) >= 0, false);
        }
        for (String line : code.toString().split("\n")) {
            if (line.startsWith("import")) {
                c.due(line, line.equals("import java.util.Arrays;"), true);
            }
        }
        for (int i = 0; i < text.length(); i++) {
            if (text.charAt(i) > 126) {
                c.due("character " + i, text.charAt(i), ' ');
            }
        }
    }

    private static DoorOffice full() {
        DoorOffice x = Checks.withStreet(3);
        Checks.town(x, "new");
        Checks.street(x, "oak", 1, 1, 0);
        x.door(0, 0, 10, 0, 0);
        x.door(1, 0, 10, 0, 0);
        x.corner(0, 1, 1, 10, 0, 0);
        x.under(2, 0, 0, 0);
        x.renumber(0, 3, 0);
        x.stop(0, 0);
        x.walk(0);
        x.image(1);
        return x;
    }

    /** No call may throw, whatever the numbers are and whatever stands on the tape. */
    private static void wildNumbers() throws Exception {
        String[] tapes = {"", "elm 1, old", "elm", "ash", "st street", "\u00ff\u00ff\u00ff"};
        for (Method m : DoorOffice.class.getDeclaredMethods()) {
            if (Modifier.isPublic(m.getModifiers())) {
                int n = m.getParameterCount();
                for (int round = 0; round < 400; round++) {
                    DoorOffice x = round % 8 == 0 ? new DoorOffice() : full();
                    Checks.tell(x, tapes[round % tapes.length]);
                    Object[] values = new Object[n];
                    int mix = round * 7919 + 13;
                    for (int i = 0; i < n; i++) {
                        values[i] = WILD[Math.floorMod(mix, WILD.length)];
                        mix = mix / WILD.length * 31 + round + i;
                    }
                    m.invoke(x, values);
                    c.due("the face holds", x.count(11), -1);
                }
            }
        }
    }
}

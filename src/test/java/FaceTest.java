import java.io.IOException;
import java.lang.reflect.Constructor;
import java.lang.reflect.Field;
import java.lang.reflect.Method;
import java.lang.reflect.Modifier;
import java.nio.file.Files;
import java.nio.file.Path;
import java.util.Arrays;
import java.util.TreeSet;
import java.util.regex.Matcher;
import java.util.regex.Pattern;
import java.util.stream.Collectors;

/** The class's face as the document shows it, and the rules of the language that a text shows. */
public final class FaceTest {
    private static final Due due = new Due();
    private static final String[] FACE = {
        "public int card(int, int, int, int)"
                + " throws IllegalArgumentException, IllegalStateException",
        "public int variant(int, int) throws IllegalArgumentException, IllegalStateException",
        "public int setCards(int, int) throws IndexOutOfBoundsException, IllegalArgumentException",
        "public int begin(int, int, int, int, int)"
                + " throws IndexOutOfBoundsException, IllegalArgumentException, IllegalStateException",
        "public boolean can(int, int, int) throws IndexOutOfBoundsException",
        "public boolean canByAll(int, int, int) throws IndexOutOfBoundsException",
        "public int move(int, int, int) throws IndexOutOfBoundsException, IllegalStateException",
        "public int state(int) throws IndexOutOfBoundsException",
        "public int pieces(int, boolean) throws IndexOutOfBoundsException",
        "public int made(int) throws IndexOutOfBoundsException",
        "public int value(int, int) throws IndexOutOfBoundsException, IllegalArgumentException",
        "public int valueByAll(int, int) throws IndexOutOfBoundsException, IllegalArgumentException",
        "public int vote(int, int) throws IndexOutOfBoundsException",
        "public boolean isBanned(int) throws IndexOutOfBoundsException",
        "public int endless(int) throws IndexOutOfBoundsException",
        "public int points(int, int) throws IndexOutOfBoundsException"};
    private static final String[] CONSTANTS = {"LEAP 0", "SLIDE 1", "HOP 2", "OPEN 0",
        "FIRST_WON 1", "SECOND_WON 2", "DRAWN 3"};

    public static void main(String[] args) throws IOException, IllegalAccessException {
        methods();
        constants();
        constructor();
        words();
        due.end();
    }

    private static void methods() {
        TreeSet<String> seen = new TreeSet<>();
        for (Method method : VariantMill.class.getDeclaredMethods()) {
            if (!Modifier.isPrivate(method.getModifiers())) {
                seen.add(toText(method));
            }
        }
        sameSets("the face's methods", seen, FACE);
    }

    private static String toText(Method method) {
        return Modifier.toString(method.getModifiers()) + " " + method.getReturnType() + " "
                + method.getName() + names("(", method.getParameterTypes()) + ")"
                + names(" throws ", method.getExceptionTypes());
    }

    private static String names(String ahead, Class<?>[] types) {
        return Arrays.stream(types).map(Class::getSimpleName)
                .collect(Collectors.joining(", ", ahead, ""));
    }

    private static void constants() throws IllegalAccessException {
        TreeSet<String> seen = new TreeSet<>();
        for (Field field : VariantMill.class.getDeclaredFields()) {
            if (!Modifier.isPrivate(field.getModifiers())) {
                due.is("modifiers of " + field, Modifier.PUBLIC | Modifier.STATIC | Modifier.FINAL,
                        field::getModifiers);
                seen.add(field.getName() + " " + field.getInt(null));
            }
        }
        sameSets("the constants", seen, CONSTANTS);
    }

    private static void constructor() {
        Constructor<?>[] all = VariantMill.class.getDeclaredConstructors();
        due.is("one constructor", 1, () -> all.length);
        due.is("public", Modifier.PUBLIC, () -> all[0].getModifiers());
        due.is("without arguments", 0, () -> all[0].getParameterCount());
        due.is("a public and final class", Modifier.PUBLIC | Modifier.FINAL,
                VariantMill.class::getModifiers);
    }

    private static void words() throws IOException {
        String text = Files.readString(Path.of("src/main/java/VariantMill.java"));
        Pattern forbidden = Pattern.compile("\\b(try|catch|finally|import|package|assert|synchronized"
                + "|native|volatile|System\\.(?!arraycopy)|Math\\.\\w+Exact)\\b|->|::|[^\\n\\x20-\\x7e]");
        Matcher found = forbidden.matcher(text);
        while (found.find()) {
            String word = found.group();
            due.holds("the program holds " + word, false, () -> true);
        }
        for (String name : FACE) {
            String bare = name.replaceAll("\\(.*", "").replaceAll(".* ", "");
            due.holds("a private method is called " + bare, false,
                    () -> Pattern.compile("private [^;={]*\\b" + bare + "\\(").matcher(text).find());
        }
    }

    private static void sameSets(String what, TreeSet<String> seen, String[] dues) {
        TreeSet<String> wanted = new TreeSet<>(Arrays.asList(dues));
        due.holds(what + ": " + seen + ", due are " + wanted, true, () -> seen.equals(wanted));
    }
}

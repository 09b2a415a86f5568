import java.io.IOException;
import java.nio.file.Files;
import java.nio.file.Path;
import java.util.List;

/** README.md: its example is the one that is run here, and it names every call and constant. */
public final class ReadmeTest {
    private static final Due due = new Due();

    public static void main(String[] args) throws IOException {
        example();
        exampleIsTheReadmes();
        readmeNamesAll();
        due.end();
    }

    private static void example() {
        VariantMill mill = new VariantMill();
        int right = mill.card(VariantMill.LEAP, 1, 0, 1);
        int rook = mill.card(VariantMill.SLIDE, 0, 1, 4);
        int over = mill.card(VariantMill.HOP, 0, 1, 4);
        int variant = mill.variant(1 << 12, 1 << right | 1 << rook);
        int before = mill.setCards(variant, 1 << right | 1 << rook | 1 << over);
        int game = mill.begin(variant, 0, 1, 1 << 0, 1 << 24);
        int best = mill.value(game, 2);
        if (mill.can(game, 0, 20)) {
            int state = mill.move(game, 0, 20);
            due.is("the state", VariantMill.OPEN, () -> state);
        }
        int ofFirst = mill.pieces(game, false);
        int votes = mill.vote(3, variant);
        int points = mill.points(0, variant);
        due.is("the set before", 3, () -> before);
        due.is("the value", 0, () -> best);
        due.is("the first one's pieces", 1 << 20, () -> ofFirst);
        due.is("the votes", 1, () -> votes);
        due.is("the points", 0, () -> points);
        due.is("the moves made", 1, () -> mill.made(game));
    }

    /** Every line of README's example stands in this file, in the same order. */
    private static void exampleIsTheReadmes() throws IOException {
        String readme = Files.readString(Path.of("README.md"));
        List<String> here = Files.readAllLines(Path.of("src/test/java/ReadmeTest.java"));
        int at = 0;
        int lines = 0;
        for (String line : readme.split("```java\n")[1].split("```")[0].split("\n")) {
            String bare = line.replaceAll(" *//.*", "").strip();
            while (at < here.size() && !here.get(at).strip().equals(bare)) {
                at++;
            }
            int found = at;
            due.holds("run here: " + bare, true, () -> found < here.size());
            lines++;
        }
        int count = lines;
        due.holds("the example has some lines", true, () -> count > 10);
    }

    private static void readmeNamesAll() throws IOException {
        String readme = Files.readString(Path.of("README.md"));
        for (var method : VariantMill.class.getDeclaredMethods()) {
            if (java.lang.reflect.Modifier.isPublic(method.getModifiers())) {
                due.holds("README tells of " + method.getName(), true,
                        () -> readme.contains("| `" + method.getName() + "("));
            }
        }
        for (var field : VariantMill.class.getFields()) {
            due.holds("README tells of " + field.getName(), true,
                    () -> readme.contains("`" + field.getName() + "`"));
        }
    }
}

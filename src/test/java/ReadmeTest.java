import java.io.IOException;
import java.lang.reflect.Field;
import java.lang.reflect.Method;
import java.lang.reflect.Modifier;
import java.nio.file.Files;
import java.nio.file.Path;
import java.util.ArrayList;
import java.util.List;

/** README.md as it stands: its example answers what it says there, and it names every call and code. */
public final class ReadmeTest {
    /** Between its two marks are the lines of the example, in their order, and checks. */
    private static void example() {
        // the example begins
        KiteWar war = new KiteWar();
        int tower = war.tower(0, 18, 3);     // 0: a tower of the side 0 in the hexagon 18, with a reach of 3
        Check.due("tower", tower, 0);
        int kite = war.kite(tower, 5);       // 0: a kite with a strength of 5, at rest
        Check.due("kite", kite, 0);
        int winds = war.wind(0, 1);          // 1: a wind to the right, with a force of 1
        Check.due("wind", winds, 1);
        int slips = war.slip(kite, 1, 4);    // 1: a slip, to fly down and left
        Check.due("slip", slips, 1);
        int cut = war.turn(1);               // 0: the slip is carried out, no line is cut
        Check.due("turn", cut, 0);
        int length = war.tellKite(kite);     // 15: the line is now "k0 flies 4x1 s5"
        Check.due("tellKite", length, 15);
        Check.due("the line", Check.line(war), "k0 flies 4x1 s5");
        int letter = war.character(0);       // 107: its "k"
        Check.due("character", letter, 107);

        for (char code : "0 out;wind 2*1;turn 3".toCharArray()) {
            war.append(code);
        }
        int orders = war.run();              // 3: all three are carried out, and the text is empty again
        Check.due("run", orders, 3);
        Check.due("the length of the text", war.account(16), 0);
        int steps = war.kiteOf(kite, 4);     // 2: how long the line of the kite is
        Check.due("kiteOf", steps, 2);

        int again = war.slip(kite, 1, 0);    // REFUSED: a kite that flies can't be told to fly
        Check.due("slip again", again, KiteWar.REFUSED);
        int reason = war.reason(false);      // 3: the kite is not at rest
        Check.due("reason", reason, 3);
        int detail = war.reason(true);       // 1: it flies
        Check.due("detail", detail, 1);

        int left = war.undo();               // 5: the run is undone as one change; so many more can be
        Check.due("undo", left, 5);
        int saved = war.save();              // 1: one kite is in the snapshot
        Check.due("save", saved, 1);
        int restored = war.restore();        // 1: and back from it; nothing can be undone now
        Check.due("restore", restored, 1);
        Check.due("undo behind restore", war.undo(), KiteWar.NOTHING);
        // the example ends
    }

    private static List<String> between(List<String> lines, String first, String last) {
        List<String> found = new ArrayList<>();
        boolean isInside = false;
        for (String line : lines) {
            String trimmed = line.trim();
            if (trimmed.equals(last)) {
                isInside = false;
            }
            if (isInside && !trimmed.isEmpty() && !trimmed.startsWith("Check.")) {
                found.add(trimmed);
            }
            if (trimmed.equals(first)) {
                isInside = true;
            }
        }
        return found;
    }

    private static void exampleIsTheReadmes(Path root, List<String> readme) throws IOException {
        List<String> test = Files.readAllLines(root.resolve("src/test/java/ReadmeTest.java"));
        String tried = String.join("\n", between(test, "// the example begins", "// the example ends"));
        Check.due("the example", String.join("\n", between(readme, "```java", "```")), tried);
    }

    private static void namesTheFace(String readme) {
        for (Method method : KiteWar.class.getDeclaredMethods()) {
            if (Modifier.isPublic(method.getModifiers())) {
                Check.due(method.getName() + " in README.md",
                        readme.contains("`" + method.getName() + "`") ? 1 : 0, 1);
            }
        }
        for (Field code : KiteWar.class.getFields()) {
            Check.due(code.getName() + " in README.md", readme.contains("`" + code.getName() + "`") ? 1 : 0, 1);
        }
    }

    public static void main(String[] args) throws IOException {
        example();
        Path root = Path.of(args[0]).toAbsolutePath().normalize().getParent().resolve("../../..").normalize();
        List<String> readme = Files.readAllLines(root.resolve("README.md"));
        exampleIsTheReadmes(root, readme);
        namesTheFace(String.join("\n", readme));
        Check.end();
    }
}

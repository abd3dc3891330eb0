import java.io.File;
import java.io.IOException;
import java.nio.file.Files;
import java.nio.file.Path;
import java.util.ArrayList;
import java.util.List;

/** README.md, which is looked for in the folder that the test is run from. */
public final class ReadmeTest {
    private static final int NONE = VaultHands.NONE, BAD = VaultHands.BAD, MISSING = VaultHands.MISSING;
    private static final int DENIED = VaultHands.DENIED, ALARM = VaultHands.ALARM, JAMMED = VaultHands.JAMMED;
    private static final int BROKEN = VaultHands.BROKEN;
    private static final String[] CONSTANTS = {
        "NONE", "BAD", "FULL", "MISSING", "DENIED", "ALARM", "JAMMED", "BROKEN"}; // from -1 down

    private static final List<String> made = new ArrayList<>();

    public static void main(String[] args) throws IOException {
        List<String> readme = Files.readAllLines(Path.of("README.md"));
        makeTheCalls();
        sameRows(rowsOfTheExample(readme));
        constantsAreTold(readme);
        testsAreTold(readme);
        Due.end();
    }

    private static void makeTheCalls() {
        VaultHands desk = new VaultHands();
        made.add("VaultHands desk = new VaultHands();");
        keysAndVaults(desk);
        refusals(desk);
        book(desk);
        twoVaults(desk);
        orders(desk);
        wearAndRows(desk);
    }

    // The names v, w, left, right, third stand for the numbers that keysAndVaults and twoVaults look at.

    private static void keysAndVaults(VaultHands desk) {
        row("int left = desk.key(2, false)", desk.key(2, false), 0);
        row("int right = desk.key(1, true)", desk.key(1, true), 1);
        row("desk.key(10, false)", desk.key(10, false), BAD);
        row("int v = desk.vault(100)", desk.vault(100), 0);
        row("int w = desk.vault(50)", desk.vault(50), 1);
    }

    private static void refusals(VaultHands desk) {
        int v = 0, left = 0, right = 1;
        row("desk.hang(v, 0, left)", desk.hang(v, 0, left), NONE);
        row("desk.put(v, 60)", desk.put(v, 60), MISSING);
        row("desk.hang(v, 1, right)", desk.hang(v, 1, right), NONE);
        row("desk.put(v, 60)", desk.put(v, 60), 60);
        row("desk.put(v, 41)", desk.put(v, 41), DENIED);
        row("desk.take(v, 61)", desk.take(v, 61), ALARM);
        row("desk.split(v, 7)", desk.split(v, 7), 8);
        row("desk.split(v, 0)", desk.split(v, 0), BROKEN);
        row("desk.alarms()", desk.alarms(), 2);
    }

    private static void book(VaultHands desk) {
        int v = 0;
        row("desk.clear()", desk.clear(), 23);
        row("desk.take(v, 10)", desk.take(v, 10), 50);
        row("desk.entries()", desk.entries(), 4);
        row("desk.entry(0)", desk.entry(0), 100);
        row("desk.entry(1)", desk.entry(1), 101);
        row("desk.entry(2)", desk.entry(2), 201);
        row("desk.entry(3)", desk.entry(3), 200);
        row("desk.entry(4)", desk.entry(4), NONE);
    }

    private static void twoVaults(VaultHands desk) {
        int v = 0, w = 1, left = 0, right = 1, third = 2;
        row("desk.hang(w, 0, left)", desk.hang(w, 0, left), NONE);
        row("desk.hang(w, 1, right)", desk.hang(w, 1, right), NONE);
        row("desk.move(v, w, 20)", desk.move(v, w, 20), JAMMED);
        row("int third = desk.key(9, false)", desk.key(9, false), 2);
        row("desk.hang(w, 1, third)", desk.hang(w, 1, third), 1);
        row("desk.move(v, w, 20)", desk.move(v, w, 20), 30);
        row("desk.sum(w)", desk.sum(w), 20);
        row("desk.link(v, w)", desk.link(v, w), NONE);
        row("desk.walk(v, 60, 1000)", desk.walk(v, 60, 1000), 50);
    }

    private static void orders(VaultHands desk) {
        int v = 0, w = 1;
        row("desk.order(1, v, 0, 5)", desk.order(1, v, 0, 5), 1);
        row("desk.order(3, v, 0, 0)", desk.order(3, v, 0, 0), 2);
        row("desk.order(4, 0, 0, 0)", desk.order(4, 0, 0, 0), 3);
        row("desk.order(0, w, 0, 1)", desk.order(0, w, 0, 1), 4);
        row("desk.run()", desk.run(), 2);
        row("desk.orders()", desk.orders(), 0);
        row("desk.sum(v)", desk.sum(v), 25);
        row("desk.hung(v, 0)", desk.hung(v, 0), 1);
    }

    private static void wearAndRows(VaultHands desk) {
        int v = 0, right = 1;
        row("desk.wear(right)", desk.wear(right), 20);
        row("desk.polish(right)", desk.polish(right), 22);
        row("desk.wear(right)", desk.wear(right), 0);
        row("desk.rounds(v, 2, 12)", desk.rounds(v, 2, 12), 2);
        row("desk.sweep(v, 2, 40)", desk.sweep(v, 2, 40), 40);
        row("desk.alarms()", desk.alarms(), 3);
    }

    private static void row(String call, int got, int due) {
        Due.is("README: row " + made.size() + ", " + call, got, due);
        made.add(call + "; // " + (due < 0 ? CONSTANTS[-1 - due] : String.valueOf(due)));
    }

    /** Each row with its call and its answer alone: what is told behind the answer's colon is left out. */
    private static List<String> rowsOfTheExample(List<String> readme) {
        List<String> rows = new ArrayList<>();
        int start = readme.indexOf("```java");
        for (int i = start + 1; start >= 0 && i < readme.size() && !readme.get(i).equals("```"); i++) {
            if (!readme.get(i).isBlank()) {
                rows.add(readme.get(i).replaceFirst(" +// *([^:]*).*", " // $1").strip());
            }
        }
        return rows;
    }

    private static void sameRows(List<String> shown) {
        Due.is("README: rows of the example", shown.size(), made.size());
        for (int i = 0; i < Math.min(shown.size(), made.size()); i++) {
            String otherwise = "README: row " + i + " is '" + shown.get(i) + "', and not '" + made.get(i) + "'";
            Due.holds(otherwise, shown.get(i).equals(made.get(i)));
        }
    }

    private static void constantsAreTold(List<String> readme) {
        for (int i = 0; i < CONSTANTS.length; i++) {
            String told = "| `" + CONSTANTS[i] + "` | " + (-1 - i) + " | ";
            Due.holds("README: no row begins with " + told, readme.stream().anyMatch(line -> line.startsWith(told)));
        }
    }

    private static void testsAreTold(List<String> readme) {
        String[] files = new File("src/test/java").list((folder, name) -> name.endsWith("Test.java"));
        Due.holds("README: no test is found", files != null && files.length > 0);
        for (String file : files == null ? new String[0] : files) {
            String told = "| `" + file.replace(".java", "") + "` | ";
            Due.holds("README: no row begins with " + told, readme.stream().anyMatch(line -> line.startsWith(told)));
        }
    }
}

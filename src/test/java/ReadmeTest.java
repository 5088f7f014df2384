import java.io.ByteArrayOutputStream;
import java.io.IOException;
import java.io.PrintStream;
import java.lang.reflect.Method;
import java.lang.reflect.Modifier;
import java.nio.charset.StandardCharsets;
import java.nio.file.Files;
import java.nio.file.Path;
import java.util.Map;
import java.util.TreeMap;
import java.util.regex.Matcher;
import java.util.regex.Pattern;

/** README.md: its program is compiled and prints what stands there; its table of refused calls is the document's. */
public final class ReadmeTest {
    private static int wrong = 0;

    private static void must(boolean so, String what) {
        if (!so) {
            wrong++;
            System.out.println("not so: " + what);
        }
    }

    private static String read(Path file) throws IOException {
        return Files.readString(file, StandardCharsets.UTF_8);
    }

    /** What stands between ```sort and the next ```. */
    private static String block(String page, String sort) {
        Matcher m = Pattern.compile("(?s)```" + sort + "\n(.*?)```").matcher(page);
        return m.find() ? m.group(1) : "";
    }

    private static String printed() {
        PrintStream screen = System.out;
        ByteArrayOutputStream bytes = new ByteArrayOutputStream();
        System.setOut(new PrintStream(bytes, true, StandardCharsets.UTF_8));
        FirstVoyage.main(new String[0]);
        System.setOut(screen);
        return bytes.toString(StandardCharsets.UTF_8).replace("\r\n", "\n");
    }

    /** Of each promise that tells why its call is refused the reasons, in their order. */
    private static Map<String, String> reasonsOfDocument(String doc) {
        Map<String, String> reasons = new TreeMap<>();
        Matcher m = Pattern.compile("## Promise \\d+: (\\w+)\n\n`[^`]*`: ([^\n]*)").matcher(doc);
        while (m.find()) {
            Matcher number = Pattern.compile("(?<!\\d)-[1-6](?!\\d|,\\d)").matcher(m.group(2));
            StringBuilder all = new StringBuilder();
            while (number.find()) {
                all.append(all.length() > 0 ? " " : "").append(number.group());
            }
            if (all.length() > 0) {
                reasons.put(m.group(1), all.toString());
            }
        }
        return reasons;
    }

    private static Map<String, String> reasonsOfPage(String page) {
        Map<String, String> reasons = new TreeMap<>();
        Matcher m = Pattern.compile("(?m)^\\| `(\\w+)` \\| ([-1-6 ]+) \\|$").matcher(page);
        while (m.find()) {
            reasons.put(m.group(1), m.group(2));
        }
        return reasons;
    }

    /** The calls that promise 41 names are those that the table has. */
    private static String callsOfStatus(String doc) {
        Matcher m = Pattern.compile("What the latest call of (.*) was REFUSED by").matcher(doc);
        return m.find() ? m.group(1) : "";
    }

    public static void main(String[] args) throws IOException {
        must(args.length == 1, "the source is named");
        Path root = Path.of(args.length == 1 ? args[0] : "src/main/java/ColdShips.java").toAbsolutePath().normalize();
        for (int n = 0; n < 4; n++) {
            root = root.getParent();
        }
        String page = read(root.resolve("README.md"));
        String doc = read(root.resolveSibling("shared").resolve("DOC.md"));
        must(block(page, "java").equals(read(root.resolve("src/test/support/FirstVoyage.java"))), "the program is FirstVoyage");
        String due = block(page, "text");
        String got = printed();
        must(!due.isEmpty() && got.equals(due), "the program prints what the page says, not:\n" + got);
        Map<String, String> reasons = reasonsOfPage(page);
        must(reasons.equals(reasonsOfDocument(doc)), "the reasons are those of the document: " + reasonsOfDocument(doc));
        must(reasons.size() == 22, "twenty-two calls can be refused");
        for (String call : callsOfStatus(doc).split(", ")) {
            must(reasons.containsKey(call), "status() tells of " + call);
        }
        for (Method m : ColdShips.class.getDeclaredMethods()) {
            must(!Modifier.isPublic(m.getModifiers()) || Pattern.compile("`" + m.getName() + "(\\(\\))?`").matcher(page).find(),
                    "the page names " + m.getName());
        }
        must(page.contains("bash .ci/run"), "the page says how the tests are run");
        System.out.println(wrong == 0 ? "README.md is as due" : wrong + " things are not as due");
        if (wrong != 0) {
            System.exit(1);
        }
    }
}

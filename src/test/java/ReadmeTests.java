import java.lang.reflect.Method;
import java.lang.reflect.Modifier;
import java.nio.file.Files;
import java.nio.file.Path;
import java.util.Arrays;
import java.util.regex.Matcher;
import java.util.regex.Pattern;

/** The calls in README.md answer what it says behind them, and it names all there is to call. */
final class ReadmeTests {
    private static final Pattern BLOCK = Pattern.compile("```java\n(.*?)```", Pattern.DOTALL);
    private static final Pattern SIGN = Pattern.compile("'(.)'");
    private static final Pattern CALL = Pattern.compile("x\\.(\\w+\\([^;]*\\));");
    private static final Pattern LINE =
        Pattern.compile("((?:x\\.\\w+\\([^;]*\\);\\s*)+)// ([\\w+-]+)(?::.*)?");
    private static final int LEAST_CALLS = 50;

    static void run(String path) {
        Check.test("README: its calls answer as it says", () -> {
            int calls = 0;
            Matcher block = BLOCK.matcher(Files.readString(Path.of(path)));
            while (block.find()) {
                calls += runBlock(block.group(1));
            }
            Check.holds(calls + " calls are tried", calls >= LEAST_CALLS);
        });
        Check.test("README: it names each call and each constant", () -> namesAll(Files.readString(Path.of(path))));
    }

    /** A line holds calls on one object, and what the last of them answers. */
    private static int runBlock(String text) throws Exception {
        String[] lines = text.split("\n");
        Check.holds("an object is made first: " + lines[0], lines[0].startsWith("SpringFarms x = new SpringFarms();"));
        SpringFarms x = new SpringFarms();
        int calls = 0;
        for (String line : Arrays.copyOfRange(lines, 1, lines.length)) {
            Matcher parts = LINE.matcher(SIGN.matcher(line).replaceAll(sign -> "" + (int) sign.group(1).charAt(0)));
            Check.holds("it is read: " + line, parts.matches());
            Matcher call = CALL.matcher(parts.group(1));
            long got = 0;
            while (call.find()) {
                got = Script.call(x, call.group(1));
                calls++;
            }
            Check.due(line, got, Script.number(parts.group(2)));
        }
        return calls;
    }

    private static void namesAll(String text) {
        for (Method method : SpringFarms.class.getDeclaredMethods()) {
            if (Modifier.isPublic(method.getModifiers())) {
                Check.holds(method.getName() + " is named", text.contains("\n| `" + method.getName() + "("));
            }
        }
        for (String constant : new String[] {"UNKNOWN", "OUTSIDE", "STATE", "FULL", "NO", "NONE", "GONE"}) {
            Check.holds(constant + " is named", text.contains("`" + constant + "`"));
        }
    }

    private ReadmeTests() {
    }
}

import java.io.File;
import java.io.IOException;
import java.lang.reflect.Method;
import java.nio.charset.StandardCharsets;
import java.nio.file.Files;
import java.nio.file.Path;
import java.util.regex.Matcher;
import java.util.regex.Pattern;

/** README.md: its bridge answers as it tells, its feeding is the one that is tried here, and it tells of each test. */
public final class ReadmeTest {
    private static final Checks C = new Checks();
    private static final Pattern FED = Pattern.compile("feed\\(bridge, \"([^\"]*)\"\\);");
    private static final Pattern ASKED = Pattern.compile("bridge\\.(\\w+)\\(([-0-9, ]*)\\); +// (-?\\d+|true|false)\\b.*");

    public static void main(String[] args) throws IOException, ReflectiveOperationException {
        String readme = read("README.md");
        C.due("README.md has the feeding that is tried here", readme.contains(feeding()), true);
        example(readme);
        tests(readme);
        C.end("ReadmeTest");
    }

    private static String read(String path) throws IOException {
        return Files.readString(Path.of(path), StandardCharsets.UTF_8);
    }

    private static void example(String readme) throws ReflectiveOperationException {
        String first = "MiddleBridge bridge = new MiddleBridge();";
        int from = readme.indexOf(first);
        C.due("README.md makes a bridge", from >= 0, true);
        MiddleBridge bridge = new MiddleBridge();
        int asked = 0;
        for (String line : readme.substring(from + first.length(), readme.indexOf("```", from)).split("\n")) {
            Matcher fed = FED.matcher(line);
            Matcher call = ASKED.matcher(line);
            if (fed.matches()) {
                feed(bridge, fed.group(1));
            } else if (call.matches()) {
                C.due(line, ask(bridge, call.group(1), call.group(2)).equals(call.group(3)), true);
                asked++;
            } else {
                C.due("this line can be tried: " + line, line.isEmpty(), true);
            }
        }
        C.due("README.md asks the bridge", asked > 0, true);
    }

    private static String ask(MiddleBridge bridge, String name, String told) throws ReflectiveOperationException {
        String[] words = told.isEmpty() ? new String[0] : told.split(", ");
        Class<?>[] types = new Class<?>[words.length];
        Object[] numbers = new Object[words.length];
        for (int i = 0; i < words.length; i++) {
            types[i] = int.class;
            numbers[i] = Integer.valueOf(words[i]);
        }
        Method method = MiddleBridge.class.getMethod(name, types);
        return String.valueOf(method.invoke(bridge, numbers));
    }

    private static void tests(String readme) {
        for (File file : new File("src/test/java").listFiles()) {
            String name = file.getName().replace(".java", "");
            if (name.endsWith("Test")) {
                C.due("README.md tells of " + name, readme.contains("`" + name + "`"), true);
            }
        }
    }

    /** The method feed as it stands in this file, four blanks to the left. */
    private static String feeding() throws IOException {
        String own = read("src/test/java/ReadmeTest.java");
        int from = own.indexOf("\n    static void feed(");
        int end = own.indexOf("\n    }\n", from);
        return own.substring(from + 5, end + 6).replace("\n    ", "\n");
    }

    static void feed(MiddleBridge bridge, String text) {
        for (int at = 0; at < text.length(); at += 20) {
            int[] five = new int[5];
            for (int i = 0; i < 20 && at + i < text.length(); i++) {
                five[i / 4] |= (text.charAt(at + i) & 255) << 24 - 8 * (i % 4);
            }
            bridge.feed(five[0], five[1], five[2], five[3], five[4]);
        }
    }
}

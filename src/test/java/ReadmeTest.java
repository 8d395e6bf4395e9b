import java.io.IOException;
import java.lang.reflect.Method;
import java.nio.file.Files;
import java.nio.file.Path;
import java.util.regex.Matcher;
import java.util.regex.Pattern;

/** The calls that README.md shows, in their order on one object, answer what stands beside them. */
public final class ReadmeTest {
    private static final Pattern CALL = Pattern.compile("x\\.(\\w+)\\((.*?)\\); +// (answers|throws) (\\S+?)(:.*)?");

    public static void main(String[] args) throws IOException {
        String text = Files.readString(Path.of("README.md"));
        String block = text.substring(text.indexOf("```java"), text.lastIndexOf("```"));
        Daytimepair x = new Daytimepair();
        for (String line : block.split("\n")) {
            if (line.startsWith("x.")) {
                shown(x, line);
            }
        }
        Checks.end("ReadmeTest");
    }

    private static void shown(Daytimepair x, String line) {
        Matcher call = CALL.matcher(line);
        Checks.due("can be read: " + line, call.matches(), true);
        if (call.matches()) {
            String want = (call.group(3).equals("throws") ? "throws." : "") + call.group(4);
            Checks.due(line, String.valueOf(Checks.invoke(x, named(call.group(1)), numbers(call.group(2)))), want);
        }
    }

    private static Method named(String name) {
        for (Method method : Daytimepair.class.getDeclaredMethods()) {
            if (method.getName().equals(name)) {
                return method;
            }
        }
        throw new IllegalStateException("README.md shows a call that is none: " + name);
    }

    private static int[] numbers(String text) {
        String[] words = text.split(", ");
        int[] numbers = new int[words.length];
        for (int i = 0; i < numbers.length; i++) {
            numbers[i] = Integer.parseInt(words[i]);
        }
        return numbers;
    }
}

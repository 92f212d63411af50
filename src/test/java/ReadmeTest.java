import java.io.ByteArrayOutputStream;
import java.io.IOException;
import java.io.PrintStream;
import java.lang.reflect.Method;
import java.lang.reflect.Modifier;
import java.nio.charset.StandardCharsets;
import java.nio.file.Files;
import java.nio.file.Path;
import java.util.Arrays;
import java.util.regex.Pattern;

/** README.md shows the example as it is compiled here and what it prints, names every call, and every test. */
public final class ReadmeTest {
    public static void main(String[] args) throws IOException {
        String readme = Files.readString(Path.of("README.md"));
        String example = Files.readString(Path.of("src/test/java/Example.java"));
        Check.due("README.md shows Example.java", readme.contains("```java\n" + example + "```\n"), true);
        Check.due("README.md shows what Example prints", readme.contains("```text\n" + printed() + "```\n"), true);
        for (Method call : HalfDoors.class.getDeclaredMethods()) {
            if (Modifier.isPublic(call.getModifiers())) {
                Check.due("README.md tells of " + call, shape(call).matcher(readme).find(), true);
            }
        }
        for (String file : Path.of("src/test/java").toFile().list()) {
            String name = file.replace(".java", "");
            Check.due("README.md tells of " + name, readme.contains("`" + name + "`"), true);
        }
        Check.end("ReadmeTest");
    }

    /** A call with as many arguments as it takes, whatever their names. */
    private static Pattern shape(Method call) {
        String[] names = new String[call.getParameterCount()];
        Arrays.fill(names, "\\w+");
        return Pattern.compile("`" + call.getName() + "\\(" + String.join(", ", names) + "\\)`");
    }

    private static String printed() {
        PrintStream screen = System.out;
        ByteArrayOutputStream bytes = new ByteArrayOutputStream();
        System.setOut(new PrintStream(bytes, true, StandardCharsets.UTF_8));
        Example.main(new String[0]);
        System.setOut(screen);
        return bytes.toString(StandardCharsets.UTF_8).replace("\r\n", "\n");
    }
}

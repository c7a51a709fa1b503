import java.io.IOException;
import java.nio.file.Files;
import java.nio.file.Path;
import java.util.ArrayList;
import java.util.List;
import java.util.regex.Matcher;
import java.util.regex.Pattern;
import javax.tools.ToolProvider;

/** README.md: its Java compiles, and each call answers or throws what the comment behind it says. */
public final class ReadmeTest {
    private static final Pattern ANSWERS = Pattern.compile("(.*); // answers ([^\\s:]+)(:.*)?");
    private static final Pattern THROWS = Pattern.compile("(.*); // throws ([^\\s:]+)(:.*)?");

    public static void main(String[] args) throws Exception {
        List<String> blocks = javaBlocks();
        // Beside the class and Check, for these are seen from their own directory alone.
        Path classes = Path.of(System.getProperty("java.class.path"));
        Path source = classes.resolve("ReadmeCalls.java");
        Files.writeString(source, program(blocks));
        int wrong = ToolProvider.getSystemJavaCompiler().run(null, null, null, "-encoding", "UTF-8", "-cp",
                classes.toString(), "-d", classes.toString(), source.toString());
        Check.due("compiled", 0, () -> wrong);
        if (wrong == 0) {
            Class.forName("ReadmeCalls").getMethod("main", String[].class).invoke(null, (Object) args);
        }
        everyCallIsShown(String.join("\n", blocks));
        Check.finish();
    }

    private static List<String> javaBlocks() throws IOException {
        List<String> blocks = new ArrayList<>();
        Matcher block = Pattern.compile("(?s)```java\n(.*?)```").matcher(Files.readString(Path.of("README.md")));
        while (block.find()) {
            blocks.add(block.group(1));
        }
        return blocks;
    }

    private static String program(List<String> blocks) {
        StringBuilder methods = new StringBuilder();
        StringBuilder calls = new StringBuilder();
        for (String block : blocks) {
            if (block.startsWith("static ")) {
                methods.append(block);
            } else {
                block.lines().forEach(line -> calls.append(checked(line)).append('\n'));
            }
        }
        return "public class ReadmeCalls {\n" + methods + "public static void main(String[] args) {\n" + calls + "}\n}\n";
    }

    private static String checked(String line) {
        Matcher answers = ANSWERS.matcher(line);
        if (answers.matches()) {
            return "Check.due(\"" + answers.group(1) + "\", \"" + answers.group(2) + "\", () -> " + answers.group(1)
                    + ");";
        }
        Matcher refuses = THROWS.matcher(line);
        if (refuses.matches()) {
            return "Check.throwsDue(\"" + refuses.group(1) + "\", \"" + refuses.group(2) + "\", () -> { "
                    + refuses.group(1) + "; return \"no exception\"; });";
        }
        return line;
    }

    private static void everyCallIsShown(String shown) {
        for (String name : "feed end cron holiday next last later is place".split(" ")) {
            Check.due(name + " is shown", true, () -> shown.contains("finder." + name + "("));
        }
    }
}

import java.io.IOException;
import java.lang.reflect.Method;
import java.lang.reflect.Modifier;
import java.nio.file.Files;
import java.nio.file.Path;
import java.util.Arrays;
import java.util.regex.Matcher;
import java.util.regex.Pattern;

/** README.md: its example is run as it stands there, and it must name every call of the face and every test. */
public final class ReadmeTest {
    private static final Pattern TEXT = Pattern.compile("String text = \"([^\"]*)\";");
    private static final Pattern CALL = Pattern.compile("(?m)^x\\.(\\w+)\\(([^)]*)\\);\\s*// (-?\\d+)");
    private static final int FEWEST_CALLS_SHOWN = 5;
    private static final Check CHECK = new Check("ReadmeTest");

    private ReadmeTest() {
    }

    public static void main(String[] args) throws IOException {
        String page = Files.readString(Path.of("README.md"));
        example(page);
        for (Method m : ParrotTontine.class.getDeclaredMethods()) {
            if (Modifier.isPublic(m.getModifiers())) {
                CHECK.due("README names " + m.getName(), tableNames(page, m) ? 1 : 0, 1);
            }
        }
        try (var files = Files.newDirectoryStream(Path.of("src/test/java"), "*Test.java")) {
            for (Path file : files) {
                String name = file.getFileName().toString().replace(".java", "");
                CHECK.due("README names " + name, page.contains("| `" + name + "` |") ? 1 : 0, 1);
            }
        }
        CHECK.close();
    }

    /** The call stands there in its own signs, with as many arguments as it takes. */
    private static boolean tableNames(String page, Method m) {
        Matcher shown = Pattern.compile("`" + m.getName() + "\\(([^)]*)\\)`").matcher(page);
        return shown.find() && numberOf(shown.group(1)) == m.getParameterCount();
    }

    private static int numberOf(String arguments) {
        return arguments.isBlank() ? 0 : arguments.split(",").length;
    }

    private static void example(String page) {
        Matcher text = TEXT.matcher(page);
        CHECK.due("README has a text", text.find() ? 1 : 0, 1);
        ParrotTontine x = new ParrotTontine();
        Check.feedAll(x, text.group(1));
        int shown = 0;
        for (Matcher call = CALL.matcher(page); call.find(); shown++) {
            int[] a = call.group(2).isBlank() ? new int[0]
                    : Arrays.stream(call.group(2).split(",")).map(String::trim).mapToInt(Integer::parseInt).toArray();
            CHECK.due(call.group(), Calls.answer(x, call.group(1), a), Integer.parseInt(call.group(3)));
        }
        CHECK.due("README shows " + shown + " calls", shown >= FEWEST_CALLS_SHOWN ? 1 : 0, 1);
    }
}

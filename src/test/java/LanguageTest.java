import java.io.IOException;
import java.lang.reflect.Constructor;
import java.lang.reflect.Executable;
import java.lang.reflect.Field;
import java.lang.reflect.Method;
import java.lang.reflect.Modifier;
import java.nio.file.Files;
import java.nio.file.Path;
import java.util.Arrays;
import java.util.List;
import java.util.TreeSet;
import java.util.regex.Matcher;
import java.util.regex.Pattern;
import java.util.stream.Collectors;

/** The rules of LANGUAGE.md that can be seen from the source's words, the face, and the depth of calls' parameters. */
public final class LanguageTest {
    private static final String FACE = "feed(int) tontine() fault() told(int) life(int,int) subscriber(int,int)"
            + " year(int) died(int) guard(int,int) harm(int,int) sell(int,int,int) drift(int) undo() worth(int,int)"
            + " gain(int,int,int) gainers(int) terms(int) who(int,int) nurse(int,int) game(int,int,int,int)"
            + " fair(int,int) outlives(int,int,int) write(int,int) tear() judge() seed(int) keep(int) goBack(int)";
    private static final List<String> BANNED = List.of("throw", "throws", "try", "catch", "finally", "synchronized",
            "assert", "import", "package", "->", "::", "instanceof", "native", "volatile", "transient", "Object",
            "float", "double", "Random", "System.currentTimeMillis", "System.nanoTime", "Thread", "System.out",
            "hashCode", "toString", "equals", "protected", "Exact", "getClass");
    /** What rule 4 lists of the library's static functions, as far as the class may want them. */
    private static final List<String> LISTED = List.of("Integer.bitCount", "Integer.compare", "Integer.max",
            "Integer.min", "Long.bitCount", "Long.compare", "Long.max", "Long.min", "Math.abs", "Math.floorDiv",
            "Math.floorMod", "Math.max", "Math.min", "System.arraycopy", "Arrays.copyOf", "Arrays.copyOfRange",
            "Arrays.fill", "List.of");
    private static final Check CHECK = new Check("LanguageTest");

    private LanguageTest() {
    }

    public static void main(String[] args) throws IOException {
        face();
        words(Files.readString(Path.of("src/main/java/ParrotTontine.java")));
        CHECK.due("1 the class is public and final",
                ParrotTontine.class.getModifiers() & (Modifier.PUBLIC | Modifier.FINAL), Modifier.PUBLIC | Modifier.FINAL);
        constants();
        for (Class<?> inside : ParrotTontine.class.getDeclaredClasses()) {
            CHECK.due("2 static: " + inside, Modifier.isStatic(inside.getModifiers()) ? 1 : 0, 1);
            CHECK.due("1 not public: " + inside, Modifier.isPublic(inside.getModifiers()) ? 1 : 0, 0);
            members(inside);
        }
        CHECK.due("11 classes", ParrotTontine.class.getDeclaredClasses().length < 12 ? 1 : 0, 1);
        members(ParrotTontine.class);
        CHECK.close();
    }

    private static String shown(Executable e) {
        return Arrays.stream(e.getParameterTypes()).map(Class::getSimpleName)
                .collect(Collectors.joining(",", "(", ")"));
    }

    private static void face() {
        TreeSet<String> want = new TreeSet<>(List.of(FACE.split(" ")));
        TreeSet<String> got = new TreeSet<>();
        TreeSet<String> names = new TreeSet<>();
        for (Method m : ParrotTontine.class.getDeclaredMethods()) {
            if (!Modifier.isPrivate(m.getModifiers())) {
                got.add(m.getName() + shown(m));
                names.add(m.getName());
                CHECK.due("1 an int: " + m, m.getReturnType() == int.class && Modifier.isPublic(m.getModifiers()) ? 1 : 0, 1);
            }
        }
        CHECK.due("1 the face: " + got, got.equals(want) ? 1 : 0, 1);
        for (Method m : ParrotTontine.class.getDeclaredMethods()) {
            if (Modifier.isPrivate(m.getModifiers())) {
                CHECK.due("1 a public name: " + m, names.contains(m.getName()) ? 1 : 0, 0);
            }
        }
        Constructor<?>[] made = ParrotTontine.class.getDeclaredConstructors();
        CHECK.due("1 one constructor", made.length, 1);
        CHECK.due("1 without parameters, public",
                made[0].getParameterCount() == 0 && Modifier.isPublic(made[0].getModifiers()) ? 1 : 0, 1);
        List<String> open = List.of("NONE", "UNKNOWN", "OUTSIDE", "NOT", "FULL");
        for (Field f : ParrotTontine.class.getDeclaredFields()) {
            CHECK.due("1 private: " + f, Modifier.isPrivate(f.getModifiers()) ? 0 : 1, open.contains(f.getName()) ? 1 : 0);
        }
    }

    private static void constants() {
        CHECK.due("NONE", ParrotTontine.NONE, -1);
        CHECK.due("UNKNOWN", ParrotTontine.UNKNOWN, -2000000001);
        CHECK.due("OUTSIDE", ParrotTontine.OUTSIDE, -2000000002);
        CHECK.due("NOT", ParrotTontine.NOT, -2000000003);
        CHECK.due("FULL", ParrotTontine.FULL, -2000000004);
    }

    private static void members(Class<?> of) {
        int fields = 0;
        for (Field f : of.getDeclaredFields()) {
            if (Modifier.isStatic(f.getModifiers())) {
                CHECK.due("5 final: " + f, Modifier.isFinal(f.getModifiers()) ? 1 : 0, 1);
            } else {
                fields++;
            }
        }
        CHECK.due("11 fields of " + of, fields <= 20 ? 1 : 0, 1);
        for (Method m : of.getDeclaredMethods()) {
            CHECK.due("11 parameters of " + m, m.getParameterCount() <= 7 ? 1 : 0, 1);
        }
    }

    private static void words(String source) {
        String bare = source.replaceAll("(?s)/\\*.*?\\*/", "").replaceAll("//[^\n]*", "");
        for (String word : BANNED) {
            boolean isName = Character.isLetter(word.charAt(0));
            Matcher m = Pattern.compile((isName ? "\\b" : "") + Pattern.quote(word) + (isName ? "\\b" : "")).matcher(bare);
            CHECK.due("no '" + word + "'", m.find() ? 1 : 0, 0);
        }
        Matcher used = Pattern.compile("\\b(Integer|Long|Math|System|Arrays|List|Character|String|Short|Byte"
                + "|Boolean|Collections|Objects|java)\\s*\\.\\s*\\w+").matcher(bare);
        while (used.find()) {
            CHECK.due("4 the library lists " + used.group(), LISTED.contains(used.group()) ? 1 : 0, 1);
        }
        CHECK.due("3 signs 1 to 127 alone", source.chars().allMatch(sign -> sign > 0 && sign < 128) ? 1 : 0, 1);
        int longest = 0;
        int lines = 0;
        for (String line : bare.split("\n")) {
            // a method's body is indented by 8 or 12, what stands between methods by 4 or 8
            lines = line.matches(" {4}(    )?}") || line.isBlank() && lines == 0 ? 0 : lines + 1;
            if (line.matches(" {4}(    )?[a-zA-Z].*\\) \\{")) {
                lines = 1;
            }
            longest = Math.max(longest, lines);
        }
        CHECK.due("11 the longest method has " + longest + " lines", longest <= 60 ? 1 : 0, 1);
    }
}

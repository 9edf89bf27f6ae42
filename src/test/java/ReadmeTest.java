import java.io.File;
import java.io.IOException;
import java.lang.reflect.Method;
import java.nio.charset.StandardCharsets;
import java.nio.file.Files;
import java.nio.file.Path;
import java.util.regex.Matcher;
import java.util.regex.Pattern;

/** README.md: its example answers what stands behind each call, and it names each call of the face and each test. */
public final class ReadmeTest {
    private static final Dues DUES = new Dues();
    private static final Pattern CALL = Pattern.compile("x\\.(\\w+)\\(([^)]*)\\);\\s*// (-?\\d+|true|false): .*");

    public static void main(String[] args) throws IOException, ReflectiveOperationException {
        if (args.length < 3) {
            System.out.println("ReadmeTest needs the paths of NailStain.java, DOC.md and README.md");
            System.exit(1);
        }
        String page = Files.readString(Path.of(args[2]), StandardCharsets.UTF_8);
        example(page);
        callsAreNamed(page);
        testsAreNamed(page, new File("src/test/java"));
        DUES.end("ReadmeTest");
    }

    private static void example(String page) throws ReflectiveOperationException {
        int from = page.indexOf("```java");
        int to = page.indexOf("```", from + 3);
        DUES.yes("the page has an example", from >= 0 && to > from);
        NailStain x = new NailStain();
        for (String line : page.substring(Math.max(0, from), Math.max(0, to)).split("\n")) {
            Matcher call = CALL.matcher(line);
            if (call.matches()) {
                DUES.due(line, answer(x, call.group(1), call.group(2).split(", ")), number(call.group(3)));
            } else {
                DUES.no("can't be tried: " + line, line.startsWith("x."));
            }
        }
    }

    private static long answer(NailStain x, String name, String[] words) throws ReflectiveOperationException {
        Class<?>[] types = new Class<?>[words.length];
        Object[] arguments = new Object[words.length];
        for (int i = 0; i < words.length; i++) {
            types[i] = int.class;
            arguments[i] = (int) number(words[i]);
        }
        return number(String.valueOf(NailStain.class.getMethod(name, types).invoke(x, arguments)));
    }

    private static long number(String word) {
        if (word.startsWith("0b")) {
            return Long.parseLong(word.substring(2), 2);
        }
        switch (word) {
            case "true": return 1;
            case "false": return 0;
            case "NailStain.NONE": return NailStain.NONE;
            default: return Long.decode(word);
        }
    }

    private static void callsAreNamed(String page) {
        for (Method method : NailStain.class.getMethods()) {
            if (method.getDeclaringClass() == NailStain.class) {
                DUES.yes("the page names " + method.getName(), page.contains("`" + method.getName() + "`"));
            }
        }
    }

    private static void testsAreNamed(String page, File folder) {
        String[] files = folder.list();
        DUES.yes("the tests are under " + folder, files != null);
        for (String file : files == null ? new String[0] : files) {
            if (file.endsWith("Test.java")) {
                String name = file.substring(0, file.length() - ".java".length());
                DUES.yes("the page names " + name, page.contains("`" + name + "`"));
            }
        }
    }
}

import java.io.IOException;
import java.lang.reflect.Constructor;
import java.lang.reflect.Field;
import java.lang.reflect.Method;
import java.lang.reflect.Modifier;
import java.nio.charset.StandardCharsets;
import java.nio.file.Files;
import java.nio.file.Path;
import java.util.ArrayList;
import java.util.List;
import java.util.Set;
import java.util.TreeSet;
import java.util.regex.Matcher;
import java.util.regex.Pattern;

/** The face of the document, and those rules of LANGUAGE.md that can be seen by looking. */
public final class LanguageTest {
    private static final Dues DUES = new Dues();
    private static final int CLASSES_MOST = 12;
    private static final int FIELDS_MOST = 20;
    private static final int PARAMETERS_MOST = 7;
    private static final int LINES_MOST = 60;
    private static final List<String> FORBIDDEN = List.of("\\bthrows?\\b", "\\btry\\b", "\\bcatch\\b", "\\bfinally\\b",
            "\\bsynchronized\\b", "\\bassert\\b", "->", "::", "Exact\\b", "\\bSystem\\.(?!arraycopy)", "\\bThread\\b",
            "\\bRandom\\b", "\\bObject\\b", "^package\\b", "static\\s*\\{", "\\bdouble\\b", "\\bfloat\\b",
            "\"\"\\s*\\+", "\\+\\s*\"\"", "[^\\x00-\\x7f]");

    public static void main(String[] args) throws IOException {
        if (args.length < 2) {
            System.out.println("LanguageTest needs the paths of NailStain.java and DOC.md");
            System.exit(1);
        }
        String document = Files.readString(Path.of(args[1]), StandardCharsets.ISO_8859_1);
        face(document);
        members();
        List<Class<?>> classes = classes();
        DUES.yes("at most twelve classes: " + classes.size(), classes.size() <= CLASSES_MOST);
        classes.forEach(LanguageTest::shape);
        List<String> lines = withoutComments(Files.readString(Path.of(args[0]), StandardCharsets.ISO_8859_1));
        words(lines);
        lengths(lines);
        DUES.end("LanguageTest");
    }

    /** The public face word by word, as the document has it: methods, the constructor, the constant. */
    private static void face(String document) {
        int from = document.indexOf("public final class NailStain {");
        int to = document.indexOf("```", from);
        DUES.yes("the document has a face", from >= 0 && to > from);
        Set<String> want = new TreeSet<>();
        for (String line : document.substring(from, Math.max(from, to)).split("\n")) {
            if (line.endsWith(";")) {
                want.add(line.trim().replaceAll("(\\w+) \\w+(?=[,)])", "$1"));
            }
        }
        Set<String> got = new TreeSet<>();
        got.add("public static final int NONE = " + NailStain.NONE + ";");
        for (Constructor<?> one : NailStain.class.getConstructors()) {
            got.add("public " + one.getName() + types(one.getParameterTypes()));
        }
        for (Method one : NailStain.class.getMethods()) {
            if (one.getDeclaringClass() == NailStain.class) {
                got.add(Modifier.toString(one.getModifiers()) + " " + one.getReturnType() + " " + one.getName()
                        + types(one.getParameterTypes()));
            }
        }
        DUES.due("a constant, a constructor and 43 methods", got.size(), 45);
        DUES.yes("the face is " + want + ", but the class has " + got, want.equals(got));
    }

    private static String types(Class<?>[] parameters) {
        StringBuilder all = new StringBuilder("(");
        for (int i = 0; i < parameters.length; i++) {
            all.append(i == 0 ? "" : ", ").append(parameters[i]);
        }
        return all.append(");").toString();
    }

    private static void members() {
        int modifiers = NailStain.class.getModifiers();
        DUES.yes("public and final", Modifier.isPublic(modifiers) && Modifier.isFinal(modifiers));
        Constructor<?>[] constructors = NailStain.class.getDeclaredConstructors();
        DUES.yes("one public constructor", constructors.length == 1 && Modifier.isPublic(constructors[0].getModifiers()));
        Set<String> open = new TreeSet<>();
        for (Method method : NailStain.class.getDeclaredMethods()) {
            if (Modifier.isPublic(method.getModifiers())) {
                open.add(method.getName());
            }
        }
        for (Method method : NailStain.class.getDeclaredMethods()) {
            boolean hidden = Modifier.isPrivate(method.getModifiers()) && !open.contains(method.getName());
            DUES.yes(method + " is of the face or private", Modifier.isPublic(method.getModifiers()) || hidden);
        }
        for (Field field : NailStain.class.getDeclaredFields()) {
            boolean isNone = field.toString().equals("public static final int NailStain.NONE");
            DUES.yes(field + " is private", Modifier.isPrivate(field.getModifiers()) || isNone);
        }
        for (Class<?> inside : NailStain.class.getDeclaredClasses()) {
            for (Method method : inside.getDeclaredMethods()) {
                DUES.no(method + " bears a name of the face", open.contains(method.getName()));
            }
        }
    }

    private static List<Class<?>> classes() {
        List<Class<?>> classes = new ArrayList<>();
        classes.add(NailStain.class);
        classes.addAll(List.of(NailStain.class.getDeclaredClasses()));
        return classes;
    }

    private static void shape(Class<?> one) {
        DUES.yes(one + " is static", one == NailStain.class || Modifier.isStatic(one.getModifiers()));
        DUES.due(one + " has classes inside", one == NailStain.class ? 0 : one.getDeclaredClasses().length, 0);
        int fields = 0;
        for (Field field : one.getDeclaredFields()) {
            fields += Modifier.isStatic(field.getModifiers()) ? 0 : 1;
            DUES.yes(field + " is final if static",
                    !Modifier.isStatic(field.getModifiers()) || Modifier.isFinal(field.getModifiers()));
        }
        DUES.yes(one + " has few fields", fields <= FIELDS_MOST);
        for (Method method : one.getDeclaredMethods()) {
            DUES.yes(method + " has few parameters", method.getParameterCount() <= PARAMETERS_MOST);
        }
    }

    private static List<String> withoutComments(String source) {
        String bare = source.replaceAll("(?s)/\\*.*?\\*/", "").replaceAll("//[^\n]*", "").replaceAll("\"[^\"\n]*\"", "\"\"");
        return List.of(bare.split("\n", -1));
    }

    private static void words(List<String> lines) {
        for (String word : FORBIDDEN) {
            Pattern pattern = Pattern.compile(word);
            for (String line : lines) {
                DUES.no("'" + word + "' in: " + line.trim(), pattern.matcher(line).find());
            }
        }
    }

    /** A method ends at a lone brace, as deep as it began. */
    private static void lengths(List<String> lines) {
        for (int i = 0; i < lines.size(); i++) {
            Matcher head = Pattern.compile("^( {4}| {8})\\S.*\\) \\{$").matcher(lines.get(i));
            if (head.find()) {
                int end = i;
                while (end < lines.size() && !lines.get(end).equals(head.group(1) + "}")) {
                    end++;
                }
                DUES.yes("a short method: " + lines.get(i).trim(), end - i < LINES_MOST);
            }
        }
    }
}

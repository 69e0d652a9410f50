import java.io.IOException;
import java.lang.reflect.Constructor;
import java.lang.reflect.Field;
import java.lang.reflect.Method;
import java.lang.reflect.Modifier;
import java.nio.file.Files;
import java.nio.file.Path;
import java.util.ArrayList;
import java.util.Arrays;
import java.util.List;
import java.util.Set;
import java.util.TreeSet;
import java.util.regex.Matcher;
import java.util.regex.Pattern;

/** The public face is that of the document, and the program keeps to the rules that can be seen from its text. */
public final class FaceTest {
    private static final Path PROGRAM = Path.of("src/main/java/Debatetab.java");
    private static final Path DOCUMENT = Path.of("../shared/DOC.md");
    private static final Checks CHECKS = new Checks();

    public static void main(String[] args) throws IOException {
        CHECKS.begin("face");
        checkFace();
        CHECKS.begin("hidden members");
        checkHidden();
        CHECKS.begin("text");
        String text = Files.readString(PROGRAM).replaceAll("(?s)/\\*.*?\\*/", "").replaceAll("//.*", "");
        checkText(text);
        checkMade(text);
        checkThrows(text);
        checkLengths(text);
        CHECKS.end();
    }

    /** Every line of the face in the document must be a method of the class, word by word, and nothing else. */
    private static void checkFace() throws IOException {
        Set<String> due = new TreeSet<>();
        Matcher lines = Pattern.compile("^    public ([^;{]*);$", Pattern.MULTILINE)
                .matcher(Files.readString(DOCUMENT));
        while (lines.find()) {
            due.add(lines.group(1).replaceAll("\\b(int|char|boolean) \\w+([,)])", "$1$2"));
        }
        Set<String> got = new TreeSet<>();
        for (Constructor<?> each : Debatetab.class.getConstructors()) {
            got.add("Debatetab()" + thrown(each.getExceptionTypes()));
        }
        for (Method each : Debatetab.class.getDeclaredMethods()) {
            if (Modifier.isPublic(each.getModifiers())) {
                got.add(each.getReturnType().getSimpleName() + " " + each.getName() + "("
                        + names(each.getParameterTypes()) + ")" + thrown(each.getExceptionTypes()));
            }
        }
        CHECKS.same("the number of lines of the face", due.size(), 44);
        CHECKS.same("the face", got, due);
        CHECKS.isTrue("the class is final", Modifier.isFinal(Debatetab.class.getModifiers()));
    }

    private static String names(Class<?>[] types) {
        List<String> names = new ArrayList<>();
        for (Class<?> type : types) {
            names.add(type.getSimpleName());
        }
        return String.join(", ", names);
    }

    private static String thrown(Class<?>[] types) {
        return types.length == 0 ? "" : " throws " + names(types);
    }

    private static void checkHidden() {
        Set<String> publicNames = new TreeSet<>();
        for (Method each : Debatetab.class.getMethods()) {
            publicNames.add(each.getName());
        }
        List<Class<?>> classes = new ArrayList<>(Arrays.asList(Debatetab.class.getDeclaredClasses()));
        CHECKS.isTrue("some twelve classes", classes.size() < 12);
        classes.add(Debatetab.class);
        for (Class<?> each : classes) {
            checkMembers(each, publicNames);
        }
    }

    private static void checkMembers(Class<?> type, Set<String> publicNames) {
        int instanceFields = 0;
        for (Field field : type.getDeclaredFields()) {
            CHECKS.isTrue(field + " is private", Modifier.isPrivate(field.getModifiers()));
            if (Modifier.isStatic(field.getModifiers())) {
                CHECKS.isTrue(field + " is final", Modifier.isFinal(field.getModifiers()));
                CHECKS.isTrue(field + " is a number", field.getType() == int.class);
            } else {
                instanceFields++;
            }
        }
        CHECKS.isTrue(type + " has some twenty fields", instanceFields <= 20);
        for (Method method : type.getDeclaredMethods()) {
            CHECKS.isTrue(method + " takes at most seven parameters", method.getParameterCount() <= 7);
            if (!Modifier.isPublic(method.getModifiers())) {
                CHECKS.isTrue(method + " has no public one's name", !publicNames.contains(method.getName()));
                CHECKS.isTrue(method + " is private or in a class inside",
                        type != Debatetab.class || Modifier.isPrivate(method.getModifiers()));
            }
        }
    }

    private static void checkText(String text) {
        for (String word : new String[] {"catch", "finally", "synchronized", "assert", "instanceof", "->", "::",
            "Exact(", "Float.", "Double.", "Random", "System.out", "System.nanoTime", "System.currentTimeMillis",
            "System.identityHashCode", ".equals(", ".hashCode(", ".toString(", "\" +", "+ \"", "static {", "switch", "volatile"}) {
            CHECKS.isTrue("no " + word, !text.contains(word));
        }
        Matcher imports = Pattern.compile("import ([^;]*);").matcher(text);
        while (imports.find()) {
            CHECKS.isTrue("import " + imports.group(1), Set.of("java.util.Arrays",
                    "java.util.NoSuchElementException").contains(imports.group(1)));
        }
        Matcher library = Pattern.compile("\\b(Integer|Long|Math|Arrays|System|Character|Boolean)\\.\\w+")
                .matcher(text);
        while (library.find()) {
            CHECKS.isTrue(library.group() + " is of the library that is allowed",
                    Set.of("Math.abs", "Math.min", "Integer.bitCount", "Arrays.fill", "System.arraycopy")
                            .contains(library.group()));
        }
    }

    /** All objects and arrays are made with the tournament, so that no later call makes more of them. */
    private static void checkMade(String text) {
        Pattern allowed = Pattern.compile("\\s+(throw new \\w+Exception\\(\"[^\"]*\"\\);"
                + "|private final \\w+\\[\\] \\w+ = new \\w+\\[[A-Z_ *+1]+\\];"
                + "|\\w+ = new [A-Z]\\w+\\([\\w, ]*\\);|rows\\[i\\] = new Round\\(\\);)");
        for (String line : text.split("\n")) {
            if (line.contains("new ")) {
                CHECKS.isTrue("made in a constructor: " + line, allowed.matcher(line).matches());
            }
        }
    }

    private static void checkThrows(String text) {
        Matcher thrown = Pattern.compile("throw\\b([^;]*);").matcher(text);
        int count = 0;
        while (thrown.find()) {
            count++;
            CHECKS.isTrue("throw" + thrown.group(1), thrown.group(1).matches(" new (IllegalState|IllegalArgument"
                    + "|IndexOutOfBounds|Arithmetic|UnsupportedOperation|NoSuchElement)Exception\\(\"[ -~]*\"\\)"));
        }
        CHECKS.isTrue("throws are found", count > 20);
    }

    /** A method is what stands between a head that opens it and the closing brace below that head. */
    private static void checkLengths(String text) {
        Matcher methods = Pattern.compile("^( {4}| {8})(?! )(?!if|for|while)[^\n;={}]*\\([^;={}]*\\{\n(.*?)^\\1\\}$",
                Pattern.MULTILINE | Pattern.DOTALL).matcher(text);
        int count = 0;
        while (methods.find()) {
            count++;
            int lines = methods.group().split("\n").length;
            CHECKS.isTrue(lines + " lines: " + methods.group().split("\n")[0], lines <= 60);
        }
        CHECKS.isTrue("methods are found: " + count, count > 100);
    }
}

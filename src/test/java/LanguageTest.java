import java.io.IOException;
import java.lang.reflect.Constructor;
import java.lang.reflect.Field;
import java.lang.reflect.Method;
import java.lang.reflect.Modifier;
import java.nio.file.Files;
import java.nio.file.Path;
import java.util.ArrayList;
import java.util.LinkedHashMap;
import java.util.List;
import java.util.Map;
import java.util.Set;
import java.util.TreeSet;
import java.util.regex.Matcher;
import java.util.regex.Pattern;

/** The face of the class, and those rules of LANGUAGE.md that its source shows plainly. */
public final class LanguageTest {
    private static final Set<String> FACE = Set.of(
            "int well(int,int,int,int)", "int drought(int,int,int)", "int droughtOf(int,int)",
            "int wellOf(int,int)", "int aboveAt(int,int)", "int draw(int,int)",
            "int request(int,int)", "int cancel(int)", "int requestAt(int,int)", "int tick(int)",
            "int set(int,int)", "int able(int)", "int gives(int,int,int)",
            "int possibleIn(int,int)", "int waterIn(int,int)", "int lenders()", "int count(int)",
            "int undo()", "int type(int)", "int clearText()", "int fault(int)", "int play()");
    private static final Set<String> CONSTANTS = Set.of(
            "INVALID_ARGUMENT", "NOT_POSSIBLE", "LIMIT_REACHED", "NOT_FOUND");
    private static final Set<String> LIBRARY = Set.of("Math.min", "Math.max", "Arrays.fill",
            "Arrays.copyOf", "Arrays.copyOfRange", "System.arraycopy");
    private static final Pattern METHOD = Pattern.compile("( {4}| {8})[A-Za-z].*?(\\w+)\\(.*\\) \\{");
    private static final int DEEPEST = 8;
    private static final Set<String> IMPORTS = Set.of("import java.util.Arrays;",
            "import java.util.ArrayList;", "import java.util.List;", "import java.util.Iterator;");

    public static void main(String[] args) throws IOException {
        Check.due("INVALID_ARGUMENT", NoonWells.INVALID_ARGUMENT, -1);
        Check.due("NOT_POSSIBLE", NoonWells.NOT_POSSIBLE, -2);
        Check.due("LIMIT_REACHED", NoonWells.LIMIT_REACHED, -3);
        Check.due("NOT_FOUND", NoonWells.NOT_FOUND, -4);
        theFaceIsTheDocuments();
        classesInsideAreStatic();
        String source = Files.readString(Path.of("src/main/java/NoonWells.java"));
        wordsAreThoseOfTheLanguage(withoutComments(source));
        theLibraryIsThatOfTheLanguage(withoutComments(source));
        methodsAreShort(source);
        callsAreNotDeep(methodsOf(withoutComments(source)));
        Check.end();
    }

    private static void theFaceIsTheDocuments() {
        Class<?> type = NoonWells.class;
        Check.holds("the class is public and final",
                Modifier.isPublic(type.getModifiers()) && Modifier.isFinal(type.getModifiers()));
        Set<String> methods = new TreeSet<>();
        Set<String> names = new TreeSet<>();
        for (Method method : type.getDeclaredMethods()) {
            if (!Modifier.isPrivate(method.getModifiers()) && !method.isSynthetic()) {
                Check.holds(method + " is public", Modifier.isPublic(method.getModifiers()));
                methods.add(signature(method));
                names.add(method.getName());
            }
        }
        Check.holds("the methods are those of the face: " + methods, methods.equals(FACE));
        for (Method method : type.getDeclaredMethods()) {
            Check.holds(method + " has a name of its own",
                    !Modifier.isPrivate(method.getModifiers()) || !names.contains(method.getName()));
        }
        Set<String> constants = new TreeSet<>();
        for (Field field : type.getDeclaredFields()) {
            int modifiers = field.getModifiers();
            if (!Modifier.isPrivate(modifiers)) {
                constants.add(field.getName());
            }
            Check.holds(field + " is final if it is static",
                    !Modifier.isStatic(modifiers) || Modifier.isFinal(modifiers));
        }
        Check.holds("the constants are those of the face", constants.equals(CONSTANTS));
        for (Constructor<?> constructor : type.getDeclaredConstructors()) {
            Check.holds("the constructor is public and takes nothing",
                    constructor.getParameterCount() == 0
                            && Modifier.isPublic(constructor.getModifiers()));
        }
    }

    private static String signature(Method method) {
        List<String> types = new ArrayList<>();
        for (Class<?> type : method.getParameterTypes()) {
            types.add(type.getName());
        }
        return method.getReturnType().getName() + " " + method.getName()
                + "(" + String.join(",", types) + ")";
    }

    private static void classesInsideAreStatic() {
        for (Class<?> inside : NoonWells.class.getDeclaredClasses()) {
            int modifiers = inside.getModifiers();
            Check.holds(inside + " is static and not public", Modifier.isStatic(modifiers)
                    && !Modifier.isPublic(modifiers) && !Modifier.isProtected(modifiers));
            int fields = 0;
            for (Field field : inside.getDeclaredFields()) {
                boolean isStatic = Modifier.isStatic(field.getModifiers());
                Check.holds(field + " is final if it is static",
                        !isStatic || Modifier.isFinal(field.getModifiers()));
                fields += isStatic ? 0 : 1;
            }
            Check.holds(inside + " has some twenty fields", fields <= 20);
        }
        Check.holds("some twelve classes", NoonWells.class.getDeclaredClasses().length < 12);
    }

    private static String withoutComments(String source) {
        return source.replaceAll("(?s)/\\*.*?\\*/", "").replaceAll("//[^\n]*", "");
    }

    private static void wordsAreThoseOfTheLanguage(String source) {
        Matcher word = Pattern.compile("\\b(throw|throws|try|catch|finally|synchronized|assert|"
                + "package|native|volatile|transient|System\\.(?!arraycopy)\\w+|Thread|Object|"
                + "Exception|\\w+Exact|hashCode|toString)\\b|->|::|\"").matcher(source);
        while (word.find()) {
            Check.holds("no " + word.group() + " in the source", false);
        }
        for (String line : source.split("\n")) {
            Check.holds(line, !line.startsWith("import") || IMPORTS.contains(line));
            Check.holds("signs 1 to 127: " + line, line.chars().allMatch(c -> c < 128));
        }
    }

    private static void theLibraryIsThatOfTheLanguage(String source) {
        Matcher use = Pattern.compile("\\b([A-Z]\\w+\\.\\w+)\\(").matcher(source);
        while (use.find()) {
            Check.holds(use.group(1) + " is of the language", LIBRARY.contains(use.group(1)));
        }
    }

    /** A method begins with a line that ends in ") {" and ends with a brace of its depth. */
    private static Map<String, String> methodsOf(String source) {
        Map<String, String> methods = new LinkedHashMap<>();
        String[] lines = source.split("\n");
        for (int i = 0; i < lines.length; i++) {
            Matcher head = METHOD.matcher(lines[i]);
            if (head.matches() && !lines[i].matches(" +(if|for|while|switch) .*")) {
                StringBuilder body = new StringBuilder();
                for (int j = i + 1; !lines[j].equals(head.group(1) + "}"); j++) {
                    body.append(lines[j]).append('\n');
                }
                methods.merge(head.group(2), body.toString(), String::concat);
            }
        }
        return methods;
    }

    private static void methodsAreShort(String source) {
        Map<String, String> methods = methodsOf(source);
        methods.forEach((name, body) -> Check.holds(name + " has at most sixty lines",
                body.split("\n").length < 60));
        Check.holds("methods were found", methods.size() > FACE.size());
        for (Class<?> inside : NoonWells.class.getDeclaredClasses()) {
            for (Method method : inside.getDeclaredMethods()) {
                Check.holds(method + " was found", methods.containsKey(method.getName()));
                Check.holds(method + " takes at most seven", method.getParameterCount() <= 7);
            }
        }
    }

    private static void callsAreNotDeep(Map<String, String> methods) {
        for (String name : methods.keySet()) {
            int deep = depthOf(name, methods, 0);
            Check.holds(name + " goes " + deep + " deep", deep <= DEEPEST);
        }
        Check.holds("play goes deeper than its own calls", depthOf("play", methods, 0) > 5);
    }

    /** How many calls stand open at most, those of the library counted; a circle has no end. */
    private static int depthOf(String name, Map<String, String> methods, int open) {
        int deepest = 0;
        Matcher call = Pattern.compile("\\b([A-Z]\\w+\\.)?(\\w+)\\(").matcher(methods.get(name));
        while (call.find() && open <= DEEPEST) {
            if (call.group(1) != null) {
                deepest = Math.max(deepest, 1);
            } else if (methods.containsKey(call.group(2))) {
                deepest = Math.max(deepest, depthOf(call.group(2), methods, open + 1));
            }
        }
        return deepest + 1;
    }
}

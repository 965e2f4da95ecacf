import java.io.IOException;
import java.lang.reflect.Method;
import java.lang.reflect.Modifier;
import java.net.URL;
import java.net.URLClassLoader;
import java.nio.file.Files;
import java.nio.file.Path;
import java.util.ArrayList;
import java.util.List;
import java.util.regex.Matcher;
import java.util.regex.Pattern;

/** README.md: its examples compile and answer as their remarks say, and no call is left out. */
public final class ReadmeTest {
    private static final Pattern BLOCK = Pattern.compile("(?s)```java\n(.*?)```");
    private static final Pattern ANSWER =
            Pattern.compile("(?:int (\\w+) = )?(.+); +// (-?\\d+|[A-Z_]+): .*");

    private final List<String> calls = new ArrayList<>();
    private final List<Integer> wanted = new ArrayList<>();

    public static void main(String[] args)
            throws IOException, InterruptedException, ReflectiveOperationException {
        String readme = Files.readString(Path.of("README.md"));
        Matcher block = BLOCK.matcher(readme);
        int blocks = 0;
        while (block.find()) {
            new ReadmeTest().examplesAnswerAsTheySay(block.group(1));
            blocks++;
        }
        Check.holds("README has examples", blocks > 0);
        tableHasEachCall(readme);
        tableHasEachConstant(readme);
        Check.end();
    }

    private void examplesAnswerAsTheySay(String block)
            throws IOException, InterruptedException, ReflectiveOperationException {
        List<?> answers = runOf(sourceOf(block));
        Check.due("answers of an example", answers.size(), wanted.size());
        for (int i = 0; i < answers.size() && i < wanted.size(); i++) {
            Check.due("README: " + calls.get(i), (Integer) answers.get(i), wanted.get(i));
        }
    }

    /** A class that runs the example and keeps the answers whose lines say what they are. */
    private String sourceOf(String block) throws ReflectiveOperationException {
        StringBuilder source = new StringBuilder("public final class Example {\n"
                + "public static java.util.List<Integer> run() {\n"
                + "java.util.List<Integer> answers = new java.util.ArrayList<>();\n");
        for (String line : block.split("\n")) {
            Matcher answer = ANSWER.matcher(line);
            Check.holds("README says an answer: " + line,
                    answer.matches() == line.contains("//"));
            if (!answer.matches()) {
                source.append(line).append('\n');
                continue;
            }
            calls.add(line);
            wanted.add(numberOf(answer.group(3)));
            String name = answer.group(1) == null ? "answer" + wanted.size() : answer.group(1);
            source.append("int ").append(name).append(" = ").append(answer.group(2))
                    .append(";\nanswers.add(").append(name).append(");\n");
        }
        return source.append("return answers;\n}\n}\n").toString();
    }

    private static int numberOf(String answer) throws ReflectiveOperationException {
        boolean isConstant = Character.isLetter(answer.charAt(0));
        return isConstant ? NoonWells.class.getField(answer).getInt(null) : Integer.parseInt(answer);
    }

    private static List<?> runOf(String source)
            throws IOException, InterruptedException, ReflectiveOperationException {
        Path folder = Files.createTempDirectory("readme");
        Path file = folder.resolve("Example.java");
        Path made = folder.resolve("Example.class");
        try {
            Files.writeString(file, source);
            int failed = new ProcessBuilder("javac", "-proc:none",
                    "-cp", System.getProperty("java.class.path"), "-d", folder.toString(),
                    file.toString()).inheritIO().start().waitFor();
            Check.due("compiling an example", failed, 0);
            if (failed != 0) {
                return List.of();
            }
            try (URLClassLoader loader = new URLClassLoader(new URL[] {folder.toUri().toURL()})) {
                return (List<?>) loader.loadClass("Example").getMethod("run").invoke(null);
            }
        } finally {
            Files.deleteIfExists(file);
            Files.deleteIfExists(made);
            Files.deleteIfExists(folder);
        }
    }

    private static void tableHasEachCall(String readme) {
        for (Method method : NoonWells.class.getDeclaredMethods()) {
            if (Modifier.isPublic(method.getModifiers())) {
                Matcher row = Pattern.compile("\n\\| `" + method.getName() + "\\(([a-z, ]*)\\)`")
                        .matcher(readme);
                boolean isThere = row.find();
                Check.holds("README has a row of " + method.getName(), isThere);
                if (isThere) {
                    String names = row.group(1);
                    Check.due("arguments of " + method.getName() + " in README",
                            names.isEmpty() ? 0 : names.split(", ").length,
                            method.getParameterCount());
                }
            }
        }
    }

    private static void tableHasEachConstant(String readme) {
        String[] constants = {"INVALID_ARGUMENT", "NOT_POSSIBLE", "LIMIT_REACHED", "NOT_FOUND"};
        for (int i = 0; i < constants.length; i++) {
            Check.holds("README has a row of " + constants[i],
                    readme.contains("| `" + constants[i] + "` | " + (-1 - i) + " |"));
        }
    }
}

import java.io.IOException;
import java.lang.reflect.Field;
import java.lang.reflect.Method;
import java.lang.reflect.Modifier;
import java.net.URL;
import java.net.URLClassLoader;
import java.nio.file.Files;
import java.nio.file.Path;
import java.util.ArrayList;
import java.util.LinkedHashMap;
import java.util.List;
import java.util.Map;
import java.util.TreeSet;
import java.util.regex.Matcher;
import java.util.regex.Pattern;
import java.util.stream.Stream;
import javax.tools.JavaCompiler;
import javax.tools.ToolProvider;

// README.md against the class and the document: the examples are compiled and run, the calls stand in the groups that the
// interface names, each constant has its number. Run from the project's folder.
public final class ReadmeTests {
    private static final Path README = Path.of("README.md");
    private static final Path DOCUMENT = Path.of("../shared/DOC.md");
    private static final Pattern IN_TICKS = Pattern.compile("`([a-z]+)`");
    private static int wrong = 0;

    private static void due(boolean holds, String what) {
        if (!holds) {
            wrong++;
            System.out.println("not so: " + what);
        }
    }

    public static void main(String[] args) throws IOException, ReflectiveOperationException {
        String readme = Files.readString(README);
        String document = Files.readString(DOCUMENT);
        examples(readme);
        due(groupsOfTheDocument(document).equals(groupsOfThePage(readme)),
            "the groups are " + groupsOfTheDocument(document) + " but the page has " + groupsOfThePage(readme));
        eachCallIsThere(groupsOfThePage(readme));
        constants(readme);
        numbers(readme, document);
        tests(readme);
        System.out.println(wrong == 0 ? "the page is as the class" : wrong + " things of the page are not so");
        if (wrong != 0) {
            System.exit(1);
        }
    }

    // ---- examples

    /** Each line of an example that ends with a number is looked at: what the line names must be that number. */
    private static void examples(String readme) throws IOException, ReflectiveOperationException {
        Matcher blocks = Pattern.compile("```java\n(.*?)```", Pattern.DOTALL).matcher(readme);
        Pattern answered = Pattern.compile("\\s*(?:int|long) (\\w+) = .*; *// (-?\\d+)");
        int looked = 0;
        int examples = 0;
        for (int i = 0; i < 10 && blocks.find(); i++) {
            StringBuilder body = new StringBuilder();
            for (String line : blocks.group(1).split("\n")) {
                body.append(line).append('\n');
                Matcher matcher = answered.matcher(line);
                if (matcher.matches()) {
                    looked++;
                    body.append("answers.append(").append(matcher.group(1)).append(" == ").append(matcher.group(2));
                    body.append(" ? \"\" : \" ").append(matcher.group(1)).append(" is \" + ").append(matcher.group(1)).append(");\n");
                }
            }
            examples++;
            String answers = answersOf("Example" + i, body.toString());
            due(answers.isEmpty(), "example " + i + ":" + answers);
        }
        due(examples == 2 && looked == 24, "two examples with 24 answers, found " + examples + " with " + looked);
    }

    private static String answersOf(String name, String body) throws IOException, ReflectiveOperationException {
        JavaCompiler compiler = ToolProvider.getSystemJavaCompiler();
        Path folder = Files.createTempDirectory("readme");
        Path source = folder.resolve(name + ".java");
        Files.writeString(source, "public class " + name + " {\n    public static String run() {\n"
            + "StringBuilder answers = new StringBuilder();\n" + body + "return answers.toString();\n    }\n}\n");
        int failed = compiler.run(null, null, null, "-cp", System.getProperty("java.class.path"), "-d", folder.toString(), source.toString());
        String answers = " does not compile";
        if (failed == 0) {
            try (URLClassLoader loader = new URLClassLoader(new URL[] {folder.toUri().toURL()})) {
                answers = (String) loader.loadClass(name).getMethod("run").invoke(null);
            }
        }
        try (Stream<Path> files = Files.list(folder)) {
            for (Path file : (Iterable<Path>) files::iterator) {
                Files.delete(file);
            }
        }
        Files.delete(folder);
        return answers;
    }

    // ---- calls

    private static List<String> inTicks(String text) {
        List<String> names = new ArrayList<>();
        Matcher matcher = IN_TICKS.matcher(text);
        while (matcher.find()) {
            names.add(matcher.group(1));
        }
        return names;
    }

    private static Map<String, TreeSet<String>> groupsOfTheDocument(String document) {
        Map<String, TreeSet<String>> groups = new LinkedHashMap<>();
        Matcher matcher = Pattern.compile("Ahead of the calls (.*?) the interface says: ---- (.*)\\.").matcher(document);
        while (matcher.find()) {
            groups.put(matcher.group(2), new TreeSet<>(inTicks(matcher.group(1))));
        }
        return groups;
    }

    private static Map<String, TreeSet<String>> groupsOfThePage(String readme) {
        Map<String, TreeSet<String>> groups = new LinkedHashMap<>();
        String group = "";
        for (String line : readme.split("\n")) {
            if (line.matches("\\| \\*\\*.*\\*\\* \\| \\|")) {
                group = line.substring(4, line.length() - 6);
                groups.put(group, new TreeSet<>());
            } else if (line.startsWith("| `") && !group.isEmpty()) {
                groups.get(group).addAll(inTicks(line.split("\\|")[1]));
            } else {
                group = "";
            }
        }
        return groups;
    }

    private static void eachCallIsThere(Map<String, TreeSet<String>> groups) {
        TreeSet<String> told = new TreeSet<>();
        for (TreeSet<String> group : groups.values()) {
            told.addAll(group);
        }
        TreeSet<String> has = new TreeSet<>();
        for (Method method : LockedAtDusk.class.getDeclaredMethods()) {
            if (Modifier.isPublic(method.getModifiers())) {
                has.add(method.getName());
            }
        }
        due(told.equals(has), "the page tells of " + told + " but the class has " + has);
    }

    // ---- answers, numbers, tests

    private static void constants(String readme) throws ReflectiveOperationException {
        for (Field field : LockedAtDusk.class.getDeclaredFields()) {
            if (Modifier.isPublic(field.getModifiers())) {
                boolean isLong = field.getType() == long.class;
                due(!isLong || field.getLong(null) == Long.MIN_VALUE, field.getName() + " is the least long");
                String number = isLong ? "`Long.MIN_VALUE`" : "" + field.getLong(null);
                due(readme.contains("| `" + field.getName() + "` (" + number + ") |"), "the page has " + field.getName() + " as " + number);
            }
        }
        for (String number : new String[] {"-5", "-10 and below", "-11", "-12", "-13", "-14", "-1001"}) {
            due(readme.contains("\n| " + number + " |"), "the page says what " + number + " means");
        }
    }

    private static void numbers(String readme, String document) {
        String most = "An object is used for at most 512 calls after it has been made; what later calls answer is free.";
        due(document.contains(most) && readme.contains(most), "how many calls an object is used for");
    }

    private static void tests(String readme) throws IOException {
        try (Stream<Path> files = Files.list(Path.of("tests"))) {
            for (Path file : (Iterable<Path>) files::iterator) {
                due(readme.contains("`tests/" + file.getFileName() + "`"), "the page tells of " + file);
            }
        }
        due(readme.contains("    .ci/run\n") && Files.isExecutable(Path.of(".ci/run")), "how the tests are run");
    }
}

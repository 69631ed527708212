import java.io.IOException;
import java.lang.reflect.Constructor;
import java.lang.reflect.Field;
import java.lang.reflect.Method;
import java.lang.reflect.Modifier;
import java.nio.file.Files;
import java.nio.file.Path;
import java.util.ArrayList;
import java.util.Arrays;
import java.util.List;
import java.util.TreeSet;
import java.util.regex.Matcher;
import java.util.regex.Pattern;

// Rules of ../shared/LANGUAGE.md that can be seen in the source or by reflection; run from the project's folder.
public final class LanguageTests {
    private static final Path SOURCE = Path.of("src/main/java/LockedAtDusk.java");
    private static final Path DOCUMENT = Path.of("../shared/DOC.md");
    private static int wrong = 0;

    private static void due(boolean holds, String rule) {
        if (!holds) {
            wrong++;
            System.out.println("not so: " + rule);
        }
    }

    public static void main(String[] args) throws IOException {
        String whole = Files.readString(SOURCE);
        String code = withoutCommentsAndTexts(whole);
        theFace();
        members();
        words(code);
        library(code);
        sizes(code);
        made(code);
        for (int i = 0; i < whole.length(); i++) {
            due(whole.charAt(i) < 127, "rule 4: signs 1 to 127, at " + i);
        }
        System.out.println(wrong == 0 ? "the rules hold" : wrong + " rules are broken");
        if (wrong != 0) {
            System.exit(1);
        }
    }

    private static String withoutCommentsAndTexts(String whole) {
        String s = Pattern.compile("/\\*.*?\\*/", Pattern.DOTALL).matcher(whole).replaceAll(" ");
        s = s.replaceAll("'.'", "' '").replaceAll("\"[^\"\n]*\"", "\"\"");
        return s.replaceAll("//[^\n]*", " ");
    }

    private static String signature(String type, String name, Class<?>[] parameters) {
        List<String> types = new ArrayList<>();
        for (Class<?> p : parameters) {
            types.add(p.getSimpleName());
        }
        return (type + " " + name + "(" + String.join(", ", types) + ")").trim();
    }

    /** What is public is what the document's face says, no less and no more. */
    private static void theFace() throws IOException {
        String document = Files.readString(DOCUMENT);
        int begin = document.indexOf("public final class LockedAtDusk");
        String face = document.substring(begin, document.indexOf("```", begin));
        TreeSet<String> want = new TreeSet<>();
        Matcher matcher = Pattern.compile("public (\\w+ )?(\\w+)\\(([^)]*)\\);").matcher(face);
        while (matcher.find()) {
            String types = matcher.group(3).replaceAll("(\\w+) \\w+", "$1");
            want.add(((matcher.group(1) == null ? "" : matcher.group(1)) + matcher.group(2) + "(" + types + ")").trim());
        }
        TreeSet<String> has = new TreeSet<>();
        for (Constructor<?> c : LockedAtDusk.class.getDeclaredConstructors()) {
            has.add(signature("", "LockedAtDusk", c.getParameterTypes()));
            due(Modifier.isPublic(c.getModifiers()), "rule 1: a public constructor alone");
        }
        TreeSet<String> publicNames = new TreeSet<>();
        TreeSet<String> privateNames = new TreeSet<>();
        for (Method m : LockedAtDusk.class.getDeclaredMethods()) {
            boolean isPublic = Modifier.isPublic(m.getModifiers());
            due(isPublic || Modifier.isPrivate(m.getModifiers()), "rule 1: " + m + " is public or private");
            (isPublic ? publicNames : privateNames).add(m.getName());
            if (isPublic) {
                has.add(signature(m.getReturnType().getSimpleName(), m.getName(), m.getParameterTypes()));
            }
        }
        due(want.size() == 38, "the face has 38 calls, found " + want.size());
        due(has.equals(want), "rule 1: the face is " + want + " but there is " + has);
        privateNames.retainAll(publicNames);
        due(privateNames.isEmpty(), "rule 1: no private method bears a public one's name: " + privateNames);
        due(Modifier.isFinal(LockedAtDusk.class.getModifiers()), "rule 1: the class is final");
        due(Modifier.isPublic(LockedAtDusk.class.getModifiers()), "rule 1: the class is public");
        TreeSet<String> fields = new TreeSet<>();
        for (Field f : LockedAtDusk.class.getDeclaredFields()) {
            if (!Modifier.isPrivate(f.getModifiers())) {
                fields.add(f.getName());
            }
        }
        due(fields.equals(new TreeSet<>(Arrays.asList("NONE", "BAD", "STATE", "FULL", "NO"))), "rule 1: constants " + fields);
    }

    private static void members() {
        List<Class<?>> classes = new ArrayList<>();
        classes.add(LockedAtDusk.class);
        classes.addAll(Arrays.asList(LockedAtDusk.class.getDeclaredClasses()));
        due(classes.size() <= 12, "rule 11: twelve classes");
        for (Class<?> c : classes) {
            due(c == LockedAtDusk.class || Modifier.isStatic(c.getModifiers()), "rule 2: " + c + " is static");
            due(c == LockedAtDusk.class || !Modifier.isPublic(c.getModifiers()), "rule 1: " + c + " is not public");
            int own = 0;
            for (Field f : c.getDeclaredFields()) {
                boolean isStatic = Modifier.isStatic(f.getModifiers());
                own += isStatic ? 0 : 1;
                due(!isStatic || Modifier.isFinal(f.getModifiers()), "rule 5: " + f + " is final");
                due(!isStatic || f.getType().isPrimitive() || f.getType() == int[].class, "rule 5: " + f);
            }
            due(own <= 20, "rule 11: twenty fields in " + c);
            for (Method m : c.getDeclaredMethods()) {
                due(m.getParameterCount() <= 7, "rule 11: seven parameters of " + m);
            }
        }
    }

    private static void words(String code) {
        String[] words = {"throw", "throws", "try", "catch", "finally", "synchronized", "assert", "import", "package",
            "hashCode", "toString", "record", "var", "yield", "volatile", "native", "Object", "Thread", "Random", "while"};
        for (String word : words) {
            due(!Pattern.compile("\\b" + word + "\\b").matcher(code).find(), "rules 4, 6, 9, 13: no " + word);
        }
        due(!code.contains("->"), "rule 2: no lambda");
        due(!code.contains("::"), "rule 2: no method reference");
        due(!code.contains("\" +") && !code.contains("+ \""), "rule 10: no joining of texts by +");
        due(!code.contains("static {"), "rule 5: no static initialiser");
        due(!code.contains("@"), "no annotation");
    }

    private static void library(String code) {
        TreeSet<String> allowed = new TreeSet<>(Arrays.asList("Math.min", "Math.max", "Math.floorMod", "Integer.bitCount",
            "Integer.numberOfTrailingZeros", "System.arraycopy", "Long.MIN_VALUE", "Dusk.KEEN", "Dusk.DEAF", "Dusk.OR",
            "Dusk.AND", "Dusk.NOT", "Dusk.LETTERS", "Dusk.BY_LETTER", "Dusk.BY_SIGN"));
        Matcher matcher = Pattern.compile("\\b([A-Z]\\w*)\\.(\\w+)").matcher(code);
        while (matcher.find()) {
            due(allowed.contains(matcher.group()), "rule 4: " + matcher.group());
        }
    }

    private static void sizes(String code) {
        String[] lines = code.split("\n");
        int begin = -1;
        String indent = "";
        for (int i = 0; i < lines.length; i++) {
            Matcher head = Pattern.compile("^(    |        )(\\w.*\\)) \\{$").matcher(lines[i]);
            if (begin < 0 && head.matches()) {
                begin = i;
                indent = head.group(1);
            } else if (begin >= 0 && lines[i].equals(indent + "}")) {
                due(i - begin < 60, "rule 11: sixty lines, from line " + (begin + 1) + " without comments");
                begin = -1;
            }
        }
        due(begin < 0, "every method ends");
    }

    /** All rows are made by constructors: a call makes nothing, so no number of calls fills the room. */
    private static void made(String code) {
        String[] lines = code.split("\n");
        String method = "";
        for (String line : lines) {
            Matcher head = Pattern.compile("^    (    )?(\\w.*\\)) \\{$").matcher(line);
            if (head.matches() && !head.group(2).matches("(for|if|switch) .*")) {
                method = head.group(2).replaceAll("\\(.*", "");
            } else if (line.matches("^    (    )?\\}$")) {
                method = "";
            }
            if (Pattern.compile("\\bnew\\b").matcher(line).find()) {
                boolean inConstructor = method.matches("(public )?(LockedAtDusk|Park|Rows)");
                due(inConstructor || method.isEmpty(), "rule 12: what is made is made by constructors: " + line.trim());
            }
        }
    }
}

import com.sun.source.tree.*;
import com.sun.source.util.JavacTask;
import com.sun.source.util.TreePath;
import com.sun.source.util.TreePathScanner;
import com.sun.source.util.Trees;
import java.io.IOException;
import java.lang.reflect.Constructor;
import java.lang.reflect.Field;
import java.lang.reflect.Method;
import java.lang.reflect.Modifier;
import java.nio.file.Files;
import java.nio.file.Path;
import java.util.ArrayList;
import java.util.Arrays;
import java.util.HashMap;
import java.util.HashSet;
import java.util.List;
import java.util.Map;
import java.util.Set;
import java.util.TreeMap;
import java.util.TreeSet;
import java.util.regex.Matcher;
import java.util.regex.Pattern;
import javax.lang.model.element.Element;
import javax.lang.model.element.ElementKind;
import javax.lang.model.element.ExecutableElement;
import javax.lang.model.element.VariableElement;
import javax.lang.model.type.ArrayType;
import javax.lang.model.type.TypeKind;
import javax.lang.model.type.TypeMirror;
import javax.tools.JavaCompiler;
import javax.tools.StandardJavaFileManager;
import javax.tools.ToolProvider;

// Rules of ../shared/LANGUAGE.md, looked at in the class by reflection, and in its source by the compiler's tree; run from
// the project's folder. It is stricter than the rules where the class can do without what they leave.
public final class LanguageTests {
    private static final Path SOURCE = Path.of("src/main/java/LockedAtDusk.java");
    private static final Path DOCUMENT = Path.of("../shared/DOC.md");
    private static final Set<String> LIBRARY = new HashSet<>(Arrays.asList("Math.min", "Math.max", "Math.floorMod",
        "Integer.bitCount", "Integer.numberOfTrailingZeros", "System.arraycopy", "String.length", "String.charAt",
        "String.indexOf", "Object.<init>"));
    // Where a divisor that is no constant is tested just ahead of it.
    private static final Set<String> DIVIDES_BEHIND_A_TEST = new HashSet<>(Arrays.asList("commonDivisor", "fractionPart"));
    private static int wrong = 0;

    private static void due(boolean holds, String rule) {
        if (!holds) {
            wrong++;
            System.out.println("not so: " + rule);
        }
    }

    public static void main(String[] args) throws IOException {
        String whole = Files.readString(SOURCE);
        for (int i = 0; i < whole.length(); i++) {
            due(whole.charAt(i) < 127, "rule 4: signs 1 to 127, at " + i);
        }
        theFace();
        members();
        source();
        System.out.println(wrong == 0 ? "the rules hold" : wrong + " rules are broken");
        if (wrong != 0) {
            System.exit(1);
        }
    }

    // ---- by reflection

    private static String signature(String type, String name, Class<?>[] parameters) {
        List<String> types = new ArrayList<>();
        for (Class<?> p : parameters) {
            types.add(p.getSimpleName());
        }
        return (type + " " + name + "(" + String.join(", ", types) + ")").trim();
    }

    /** What is public is what the document's face says, no less and no more. */
    private static void theFace() throws IOException {
        String document = Files.readString(DOCUMENT);
        int begin = document.indexOf("public final class LockedAtDusk");
        String face = document.substring(begin, document.indexOf("```", begin));
        TreeSet<String> want = new TreeSet<>();
        Matcher matcher = Pattern.compile("public (\\w+ )?(\\w+)\\(([^)]*)\\);").matcher(face);
        while (matcher.find()) {
            String types = matcher.group(3).replaceAll("(\\w+) \\w+", "$1");
            want.add(((matcher.group(1) == null ? "" : matcher.group(1)) + matcher.group(2) + "(" + types + ")").trim());
        }
        TreeSet<String> has = new TreeSet<>();
        for (Constructor<?> c : LockedAtDusk.class.getDeclaredConstructors()) {
            has.add(signature("", "LockedAtDusk", c.getParameterTypes()));
            due(Modifier.isPublic(c.getModifiers()), "rule 1: a public constructor alone");
        }
        TreeSet<String> publicNames = new TreeSet<>();
        for (Method m : LockedAtDusk.class.getDeclaredMethods()) {
            boolean isPublic = Modifier.isPublic(m.getModifiers());
            due(isPublic || Modifier.isPrivate(m.getModifiers()), "rule 1: " + m + " is public or private");
            if (isPublic) {
                publicNames.add(m.getName());
                has.add(signature(m.getReturnType().getSimpleName(), m.getName(), m.getParameterTypes()));
            }
        }
        due(want.size() == 38, "the face has 38 calls, found " + want.size());
        due(has.equals(want), "rule 1: the face is " + want + " but there is " + has);
        noNameTwice(publicNames);
        due(Modifier.isFinal(LockedAtDusk.class.getModifiers()), "rule 1: the class is final");
        due(Modifier.isPublic(LockedAtDusk.class.getModifiers()), "rule 1: the class is public");
        TreeSet<String> fields = new TreeSet<>();
        for (Field f : LockedAtDusk.class.getDeclaredFields()) {
            if (!Modifier.isPrivate(f.getModifiers())) {
                fields.add(f.getName());
            }
        }
        due(fields.equals(new TreeSet<>(Arrays.asList("NONE", "BAD", "STATE", "FULL", "NO"))), "rule 1: constants " + fields);
    }

    private static List<Class<?>> classes() {
        List<Class<?>> classes = new ArrayList<>();
        classes.add(LockedAtDusk.class);
        classes.addAll(Arrays.asList(LockedAtDusk.class.getDeclaredClasses()));
        return classes;
    }

    private static void noNameTwice(Set<String> publicNames) {
        for (Class<?> c : classes()) {
            for (Method m : c.getDeclaredMethods()) {
                boolean isOfTheFace = c == LockedAtDusk.class && Modifier.isPublic(m.getModifiers());
                due(isOfTheFace || !publicNames.contains(m.getName()), "rule 1: no other method bears a public one's name: " + m);
                due(!Arrays.asList("equals", "hashCode", "toString").contains(m.getName()), "rule 6: no " + m);
            }
        }
    }

    private static void members() {
        due(classes().size() <= 12, "rule 11: twelve classes");
        for (Class<?> c : classes()) {
            due(c == LockedAtDusk.class || Modifier.isStatic(c.getModifiers()), "rule 2: " + c + " is static");
            due(c == LockedAtDusk.class || Modifier.isPrivate(c.getModifiers()), "rule 1: " + c + " is private");
            due(c.getSuperclass() == Object.class && c.getInterfaces().length == 0, "rule 2: " + c + " is under none");
            int own = 0;
            for (Field f : c.getDeclaredFields()) {
                boolean isStatic = Modifier.isStatic(f.getModifiers());
                own += isStatic ? 0 : 1;
                due(!isStatic || Modifier.isFinal(f.getModifiers()), "rule 5: " + f + " is final");
                due(!isStatic || f.getType().isPrimitive() || f.getType() == int[].class, "rule 5: " + f);
            }
            due(own <= 20, "rule 11: twenty fields in " + c);
            for (Method m : c.getDeclaredMethods()) {
                due(m.getParameterCount() <= 7, "rule 11: seven parameters of " + m);
            }
        }
    }

    // ---- by the compiler's tree

    private static void source() throws IOException {
        JavaCompiler compiler = ToolProvider.getSystemJavaCompiler();
        due(compiler != null, "there is a compiler");
        if (compiler == null) {
            return;
        }
        try (StandardJavaFileManager files = compiler.getStandardFileManager(null, null, null)) {
            JavacTask task = (JavacTask) compiler.getTask(null, files, null, List.of("-proc:none"), null, files.getJavaFileObjects(SOURCE));
            CompilationUnitTree unit = task.parse().iterator().next();
            task.analyze();
            due(unit.getPackageName() == null && unit.getImports().isEmpty(), "no package line, nothing imported");
            due(unit.getTypeDecls().size() == 1, "rule 1: one class in the file");
            Looks looks = new Looks(unit, Trees.instance(task));
            looks.scan(unit, null);
            new Chains(looks.calls, looks.carriesDepth).look();
        }
    }

    /** Goes through all that stands in the source, and notes who calls whom. */
    private static final class Looks extends TreePathScanner<Void, Void> {
        final Map<String, Set<String>> calls = new TreeMap<>();
        final Set<String> carriesDepth = new HashSet<>();
        private final CompilationUnitTree unit;
        private final Trees trees;

        Looks(CompilationUnitTree unit, Trees trees) {
            this.unit = unit;
            this.trees = trees;
        }

        private String at(Tree tree) {
            long position = trees.getSourcePositions().getStartPosition(unit, tree);
            return " (line " + unit.getLineMap().getLineNumber(position) + ": " + tree.toString().split("\n")[0].trim() + ")";
        }

        private Element element() {
            return trees.getElement(getCurrentPath());
        }

        /** The method around what is looked at; its name is empty in a field's initialiser. */
        private MethodTree around() {
            for (TreePath path = getCurrentPath(); path != null; path = path.getParentPath()) {
                if (path.getLeaf() instanceof MethodTree) {
                    return (MethodTree) path.getLeaf();
                }
            }
            return null;
        }

        private String nameAround() {
            return around() == null ? "" : around().getName().toString();
        }

        private static boolean isOwn(Element element) {
            return element != null && element.toString().startsWith("LockedAtDusk");
        }

        @Override
        public Void visitMethod(MethodTree tree, Void unused) {
            ExecutableElement method = (ExecutableElement) element();
            long begin = trees.getSourcePositions().getStartPosition(unit, tree);
            long end = trees.getSourcePositions().getEndPosition(unit, tree);
            long lines = unit.getLineMap().getLineNumber(Math.max(begin, end)) - unit.getLineMap().getLineNumber(begin);
            due(lines < 60, "rule 11: sixty lines" + at(tree));
            due(tree.getThrows().isEmpty(), "rule 6: no throws" + at(tree));
            due(!method.isVarArgs(), "rule 3: arrays alone" + at(tree));
            due(isAllowed(method.getReturnType()), "rule 3: what it answers" + at(tree));
            String name = nameOf(method);
            calls.computeIfAbsent(name, k -> new TreeSet<>());
            boolean isPrivate = method.getModifiers().contains(javax.lang.model.element.Modifier.PRIVATE);
            for (VariableElement parameter : method.getParameters()) {
                if (isPrivate && parameter.asType().getKind() == TypeKind.INT) {
                    carriesDepth.add(name);
                }
            }
            return super.visitMethod(tree, unused);
        }

        private static String nameOf(ExecutableElement method) {
            return method.getEnclosingElement().getSimpleName() + "." + method.getSimpleName();
        }

        private boolean isAllowed(TypeMirror type) {
            if (type.getKind().isPrimitive() || type.getKind() == TypeKind.VOID) {
                return type.getKind() != TypeKind.DOUBLE && type.getKind() != TypeKind.FLOAT;
            }
            if (type.getKind() == TypeKind.ARRAY) {
                TypeMirror items = ((ArrayType) type).getComponentType();
                return items.getKind() != TypeKind.ARRAY && isAllowed(items);
            }
            return type.toString().equals("java.lang.String") || type.toString().startsWith("LockedAtDusk");
        }

        @Override
        public Void visitVariable(VariableTree tree, Void unused) {
            VariableElement variable = (VariableElement) element();
            due(isAllowed(variable.asType()), "rule 3: its type" + at(tree));
            boolean isStatic = variable.getModifiers().contains(javax.lang.model.element.Modifier.STATIC);
            if (isStatic && variable.asType().getKind() == TypeKind.ARRAY) {
                due(tree.getInitializer() instanceof NewArrayTree, "rule 5: written out" + at(tree));
            } else if (isStatic) {
                due(variable.getConstantValue() != null, "rule 5: a constant" + at(tree));
            }
            return super.visitVariable(tree, unused);
        }

        @Override
        public Void visitMethodInvocation(MethodInvocationTree tree, Void unused) {
            ExecutableElement called = (ExecutableElement) element();
            if (isOwn(called.getEnclosingElement())) {
                String caller = nameOf((ExecutableElement) trees.getElement(trees.getPath(unit, around())));
                calls.computeIfAbsent(caller, k -> new TreeSet<>()).add(nameOf(called));
            } else {
                due(LIBRARY.contains(nameOf(called)), "rule 4: " + nameOf(called) + at(tree));
            }
            return super.visitMethodInvocation(tree, unused);
        }

        @Override
        public Void visitMemberSelect(MemberSelectTree tree, Void unused) {
            Element chosen = element();
            if (chosen instanceof VariableElement && chosen.getEnclosingElement() != null) {
                boolean isLength = chosen.getSimpleName().contentEquals("length");
                boolean isLeast = chosen.getEnclosingElement().toString().equals("java.lang.Long");
                due(isOwn(chosen.getEnclosingElement()) || isLength || isLeast, "rule 4: " + chosen + at(tree));
            }
            return super.visitMemberSelect(tree, unused);
        }

        @Override
        public Void visitNewClass(NewClassTree tree, Void unused) {
            due(tree.getClassBody() == null, "rule 2: no anonymous class" + at(tree));
            due(isOwn(element().getEnclosingElement()), "rule 4: own classes" + at(tree));
            due(nameAround().isEmpty() || nameAround().equals("<init>"), "rule 12: made by constructors alone" + at(tree));
            return super.visitNewClass(tree, unused);
        }

        @Override
        public Void visitNewArray(NewArrayTree tree, Void unused) {
            due(nameAround().isEmpty() || nameAround().equals("<init>"), "rule 12: made by constructors alone" + at(tree));
            return super.visitNewArray(tree, unused);
        }

        @Override
        public Void visitTypeCast(TypeCastTree tree, Void unused) {
            due(tree.getType() instanceof PrimitiveTypeTree, "rule 6: no cast among classes" + at(tree));
            return super.visitTypeCast(tree, unused);
        }

        @Override
        public Void visitBinary(BinaryTree tree, Void unused) {
            if (tree.getKind() == Tree.Kind.PLUS) {
                due(trees.getTypeMirror(getCurrentPath()).getKind().isPrimitive(), "rule 10: no joining of texts by +" + at(tree));
            }
            if (tree.getKind() == Tree.Kind.DIVIDE || tree.getKind() == Tree.Kind.REMAINDER) {
                dueDivisor(tree.getRightOperand(), tree);
            }
            return super.visitBinary(tree, unused);
        }

        private void dueDivisor(ExpressionTree divisor, Tree tree) {
            Object constant = null;
            if (divisor instanceof LiteralTree) {
                constant = ((LiteralTree) divisor).getValue();
            } else {
                Element named = trees.getElement(trees.getPath(unit, divisor));
                constant = named instanceof VariableElement ? ((VariableElement) named).getConstantValue() : null;
            }
            boolean isConstant = constant instanceof Integer && (Integer) constant != 0;
            due(isConstant || DIVIDES_BEHIND_A_TEST.contains(nameAround()), "rule 7: a divisor that is not tested" + at(tree));
        }

        @Override
        public Void visitCompoundAssignment(CompoundAssignmentTree tree, Void unused) {
            boolean divides = tree.getKind() == Tree.Kind.DIVIDE_ASSIGNMENT || tree.getKind() == Tree.Kind.REMAINDER_ASSIGNMENT;
            due(!divides, "rule 7: a divisor that is not tested" + at(tree));
            due(trees.getTypeMirror(getCurrentPath()).getKind().isPrimitive(), "rule 10: no joining of texts by +=" + at(tree));
            return super.visitCompoundAssignment(tree, unused);
        }

        @Override
        public Void visitForLoop(ForLoopTree tree, Void unused) {
            boolean isCounted = tree.getInitializer().size() == 1 && tree.getUpdate().size() == 1;
            due(isCounted && tree.getInitializer().get(0) instanceof VariableTree, "rule 9: one counter" + at(tree));
            if (isCounted && tree.getInitializer().get(0) instanceof VariableTree) {
                String counter = ((VariableTree) tree.getInitializer().get(0)).getName().toString();
                String ahead = tree.getCondition() == null ? "" : tree.getCondition().toString();
                due(ahead.matches(counter + " <=? [\\w.]+(\\(\\))?( && .*)?"), "rule 9: its bound, ahead of all else" + at(tree));
                due(!ahead.contains("||"), "rule 9: its bound must hold" + at(tree));
                due(tree.getUpdate().get(0).toString().equals(counter + "++;"), "rule 9: one more each time" + at(tree));
                String body = tree.getStatement().toString();
                String change = "(?<![\\w.])" + counter + "( [-+*/%&|^]?=(?!=)|\\+\\+|--)|(\\+\\+|--)" + counter + "\\b";
                due(!Pattern.compile(change).matcher(body).find(), "rule 9: the counter is changed within" + at(tree));
            }
            return super.visitForLoop(tree, unused);
        }

        private Void isNotDue(String rule, Tree tree) {
            due(false, rule + at(tree));
            return null;
        }

        @Override
        public Void visitWhileLoop(WhileLoopTree tree, Void unused) {
            return isNotDue("rule 9: counted loops alone", tree);
        }

        @Override
        public Void visitDoWhileLoop(DoWhileLoopTree tree, Void unused) {
            return isNotDue("rule 9: counted loops alone", tree);
        }

        @Override
        public Void visitThrow(ThrowTree tree, Void unused) {
            return isNotDue("rule 6: no throw", tree);
        }

        @Override
        public Void visitTry(TryTree tree, Void unused) {
            return isNotDue("rule 6: no try", tree);
        }

        @Override
        public Void visitSynchronized(SynchronizedTree tree, Void unused) {
            return isNotDue("rule 6: no synchronized", tree);
        }

        @Override
        public Void visitAssert(AssertTree tree, Void unused) {
            return isNotDue("rule 6: no assert", tree);
        }

        @Override
        public Void visitLambdaExpression(LambdaExpressionTree tree, Void unused) {
            return isNotDue("rule 2: no lambda", tree);
        }

        @Override
        public Void visitMemberReference(MemberReferenceTree tree, Void unused) {
            return isNotDue("rule 2: no method reference", tree);
        }

        @Override
        public Void visitAnnotation(AnnotationTree tree, Void unused) {
            return isNotDue("no annotation", tree);
        }

        @Override
        public Void visitInstanceOf(InstanceOfTree tree, Void unused) {
            return isNotDue("rule 6: no instanceof", tree);
        }

        @Override
        public Void visitBlock(BlockTree tree, Void unused) {
            boolean isInitialiser = getCurrentPath().getParentPath().getLeaf() instanceof ClassTree;
            due(!isInitialiser, "rule 5: no initialiser block" + at(tree));
            return super.visitBlock(tree, unused);
        }

        @Override
        public Void visitClass(ClassTree tree, Void unused) {
            due(tree.getKind() == Tree.Kind.CLASS, "rule 2: classes alone" + at(tree));
            due(element().getKind() == ElementKind.CLASS && around() == null, "rule 2: no local class" + at(tree));
            return super.visitClass(tree, unused);
        }
    }

    /** How deep calls go, those within a round of calls being one, and what such rounds are. */
    private static final class Chains {
        private final Map<String, Set<String>> calls;
        private final Set<String> carriesDepth;
        private final Map<String, Set<String>> reached = new HashMap<>();
        private final Map<String, Integer> deepest = new HashMap<>();

        Chains(Map<String, Set<String>> calls, Set<String> carriesDepth) {
            this.calls = calls;
            this.carriesDepth = carriesDepth;
        }

        void look() {
            for (String method : calls.keySet()) {
                Set<String> from = new TreeSet<>();
                reach(method, from);
                reached.put(method, from);
            }
            Set<String> recursive = new TreeSet<>();
            for (String method : calls.keySet()) {
                if (reached.get(method).contains(method)) {
                    recursive.add(method);
                    due(carriesDepth.contains(method), "rule 8: " + method + " is private and carries the depth");
                }
            }
            due(recursive.size() == 6, "rule 8: the rounds of calls that are known, found " + recursive);
            for (String method : calls.keySet()) {
                due(deep(method) <= 8, "rule 11: eight deep, but " + deep(method) + " from " + method);
            }
        }

        private void reach(String method, Set<String> from) {
            for (String called : calls.getOrDefault(method, Set.of())) {
                if (from.add(called)) {
                    reach(called, from);
                }
            }
        }

        private boolean areOneRound(String one, String other) {
            return one.equals(other) || reached.get(one).contains(other) && reached.get(other).contains(one);
        }

        private int deep(String method) {
            Integer known = deepest.get(method);
            if (known != null) {
                return known;
            }
            int most = 0;
            for (String member : calls.keySet()) {
                if (areOneRound(method, member)) {
                    for (String called : calls.get(member)) {
                        most = areOneRound(method, called) ? most : Math.max(most, deep(called));
                    }
                }
            }
            deepest.put(method, most + 1);
            return most + 1;
        }
    }
}

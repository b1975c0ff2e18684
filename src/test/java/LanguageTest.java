import com.sun.source.tree.*;
import com.sun.source.util.JavacTask;
import com.sun.source.util.TreePath;
import com.sun.source.util.TreePathScanner;
import com.sun.source.util.Trees;
import java.io.IOException;
import java.lang.reflect.Constructor;
import java.lang.reflect.Method;
import java.lang.reflect.Modifier;
import java.nio.charset.StandardCharsets;
import java.nio.file.Files;
import java.nio.file.Path;
import java.util.ArrayList;
import java.util.Arrays;
import java.util.HashMap;
import java.util.LinkedHashMap;
import java.util.List;
import java.util.Map;
import java.util.Set;
import java.util.TreeSet;
import java.util.regex.Matcher;
import java.util.regex.Pattern;
import java.util.stream.Collectors;
import javax.lang.model.element.Element;
import javax.lang.model.element.ElementKind;
import javax.lang.model.element.ExecutableElement;
import javax.lang.model.element.TypeElement;
import javax.lang.model.type.TypeKind;
import javax.lang.model.type.TypeMirror;
import javax.tools.JavaCompiler;
import javax.tools.ToolProvider;

/** The rules of LANGUAGE.md that a reading of the source can check, and the face that DOC.md tells. */
public final class LanguageTest {
    private static final String SOURCE = "src/main/java/Quakebook.java";
    private static final int MOST_CLASSES = 12;
    private static final int MOST_FIELDS = 20;
    private static final int MOST_LINES = 60;
    private static final int MOST_PARAMETERS = 7;
    private static final int MOST_DEPTH = 8;

    private static final Set<String> LIBRARY = Set.of(
            "java.lang.Math.abs(int)", "java.lang.Math.abs(long)", "java.lang.Math.min(int,int)",
            "java.lang.Math.max(int,int)", "java.lang.Integer.bitCount(int)", "java.lang.Integer.compare(int,int)",
            "java.lang.Long.compare(long,long)", "java.lang.StringBuilder.StringBuilder()",
            "java.lang.StringBuilder.append(char)", "java.lang.StringBuilder.append(int)",
            "java.lang.StringBuilder.append(java.lang.String)", "java.lang.StringBuilder.setLength(int)",
            "java.lang.StringBuilder.length()", "java.lang.AbstractStringBuilder.length()",
            "java.lang.AbstractStringBuilder.setLength(int)", "java.lang.StringBuilder.toString()",
            "java.lang.System.arraycopy(java.lang.Object,int,java.lang.Object,int,int)",
            "java.lang.IndexOutOfBoundsException.IndexOutOfBoundsException(java.lang.String)",
            "java.lang.IllegalArgumentException.IllegalArgumentException(java.lang.String)",
            "java.lang.IllegalStateException.IllegalStateException(java.lang.String)",
            "java.lang.Object.Object()");

    private int wrong;
    private int looked;

    private void check(String rule, boolean ok, String what) {
        looked++;
        if (!ok) {
            wrong++;
            System.out.println("  FAILED rule " + rule + ": " + what);
        }
    }

    public static void main(String[] args) throws IOException {
        LanguageTest t = new LanguageTest();
        t.face();
        t.source();
        System.out.println("LanguageTest: " + t.looked + " looks, " + t.wrong + " wrong");
        if (t.wrong > 0) {
            System.exit(1);
        }
    }

    // ---- the face, against DOC.md

    private void face() throws IOException {
        String doc = Files.readString(Path.of("../shared/DOC.md"));
        Matcher m = Pattern.compile("    public (int|long|boolean|String) (\\w+)\\(([^)]*)\\)([^;]*);").matcher(doc);
        Map<String, String> due = new LinkedHashMap<>();
        while (m.find()) {
            String types = Arrays.stream(m.group(3).split(", ")).map(p -> p.split(" ")[0])
                    .collect(Collectors.joining(","));
            due.put(m.group(2), m.group(1) + " " + m.group(2) + "(" + types + ")" + m.group(4));
        }
        check("1", due.size() == 43, "the document's face has " + due.size() + " methods");
        Class<?> c = Quakebook.class;
        check("1", Modifier.isPublic(c.getModifiers()) && Modifier.isFinal(c.getModifiers()), "class is public, final");
        check("1", c.getPackageName().isEmpty(), "no package");
        Constructor<?>[] made = c.getDeclaredConstructors();
        check("1", made.length == 1 && Modifier.isPublic(made[0].getModifiers())
                && made[0].getParameterCount() == 0, "one public constructor");
        Map<String, String> has = new HashMap<>();
        for (Method method : c.getDeclaredMethods()) {
            boolean isPublic = Modifier.isPublic(method.getModifiers());
            check("1", isPublic || Modifier.isPrivate(method.getModifiers()), method + " is public or private");
            check("1", isPublic == due.containsKey(method.getName()), method + " is public if it is the face's");
            if (isPublic) {
                has.put(method.getName(), signature(method));
            }
        }
        for (String name : due.keySet()) {
            check("1", due.get(name).equals(has.get(name)), "due is " + due.get(name) + ", there is " + has.get(name));
        }
        check("1", Arrays.stream(c.getDeclaredFields()).allMatch(f -> Modifier.isPrivate(f.getModifiers())),
                "all fields are private");
    }

    private static String signature(Method m) {
        String types = Arrays.stream(m.getParameterTypes()).map(Class::getSimpleName).collect(Collectors.joining(","));
        String thrown = Arrays.stream(m.getExceptionTypes()).map(Class::getSimpleName)
                .collect(Collectors.joining(", "));
        return m.getReturnType().getSimpleName() + " " + m.getName() + "(" + types + ")"
                + (thrown.isEmpty() ? "" : " throws " + thrown);
    }

    // ---- the source

    private final Map<ExecutableElement, Set<ExecutableElement>> calls = new HashMap<>();
    private final Map<ExecutableElement, Integer> depths = new HashMap<>();

    private void source() throws IOException {
        String text = Files.readString(Path.of(SOURCE), StandardCharsets.ISO_8859_1);
        check("4", text.chars().allMatch(ch -> ch < 127), "signs of the source");
        JavaCompiler compiler = ToolProvider.getSystemJavaCompiler();
        try (var files = compiler.getStandardFileManager(null, null, null)) {
            JavacTask task = (JavacTask) compiler.getTask(null, files, null, List.of("-proc:none"), null,
                    files.getJavaFileObjects(Path.of(SOURCE)));
            CompilationUnitTree unit = task.parse().iterator().next();
            task.analyze();
            Reader reader = new Reader(unit, Trees.instance(task));
            reader.scan(unit, null);
            check("1", unit.getTypeDecls().size() == 1 && unit.getPackageName() == null, "one class, no package");
            check("4", unit.getImports().isEmpty(), "no import is needed");
            check("11", reader.classes <= MOST_CLASSES, reader.classes + " classes");
        }
        for (ExecutableElement m : calls.keySet()) {
            int depth = depth(m, new ArrayList<>());
            check("11", depth <= MOST_DEPTH, m + " of " + m.getEnclosingElement() + " goes " + depth + " deep");
        }
        System.out.println("  deepest calls: " + depths.values().stream().mapToInt(d -> d).max().orElse(0));
    }

    private int depth(ExecutableElement m, List<ExecutableElement> open) {
        if (depths.containsKey(m)) {
            return depths.get(m);
        }
        if (open.contains(m)) {
            check("8", false, m + " calls itself");
            return 1000;
        }
        open.add(m);
        int deepest = 0;
        for (ExecutableElement called : calls.getOrDefault(m, Set.of())) {
            deepest = Math.max(deepest, depth(called, open));
        }
        open.remove(m);
        depths.put(m, deepest + 1);
        return deepest + 1;
    }

    private final class Reader extends TreePathScanner<Void, Void> {
        private final CompilationUnitTree unit;
        private final Trees trees;
        private final Set<String> face = new TreeSet<>();
        private int classes;
        private ExecutableElement inside;

        Reader(CompilationUnitTree unit, Trees trees) {
            this.unit = unit;
            this.trees = trees;
            for (Method m : Quakebook.class.getDeclaredMethods()) {
                if (Modifier.isPublic(m.getModifiers())) {
                    face.add(m.getName());
                }
            }
        }

        private long line(Tree t) {
            return unit.getLineMap().getLineNumber(trees.getSourcePositions().getStartPosition(unit, t));
        }

        private long endLine(Tree t) {
            return unit.getLineMap().getLineNumber(trees.getSourcePositions().getEndPosition(unit, t));
        }

        private void no(String rule, Tree t, String what) {
            check(rule, false, "line " + line(t) + ": " + what);
        }

        private TypeMirror typeOf(Tree t) {
            return trees.getTypeMirror(new TreePath(getCurrentPath(), t));
        }

        @Override
        public Void visitClass(ClassTree c, Void v) {
            classes++;
            Element e = trees.getElement(getCurrentPath());
            Set<javax.lang.model.element.Modifier> mods = c.getModifiers().getFlags();
            if (e.getEnclosingElement().getKind().isClass()) {
                check("1", mods.contains(javax.lang.model.element.Modifier.STATIC)
                        && !mods.contains(javax.lang.model.element.Modifier.PUBLIC)
                        && !mods.contains(javax.lang.model.element.Modifier.PROTECTED), c.getSimpleName() + " is static");
                check("12", mods.contains(javax.lang.model.element.Modifier.FINAL), c.getSimpleName() + " is final");
            }
            int fields = 0;
            for (Tree member : c.getMembers()) {
                check("5", !(member instanceof BlockTree), "no initialiser block in " + c.getSimpleName());
                if (member instanceof VariableTree) {
                    fields += field((VariableTree) member);
                }
            }
            check("11", fields <= MOST_FIELDS, c.getSimpleName() + " has " + fields + " fields");
            return super.visitClass(c, v);
        }

        /** Counts a field that is no constant. */
        private int field(VariableTree f) {
            Set<javax.lang.model.element.Modifier> mods = f.getModifiers().getFlags();
            if (!mods.contains(javax.lang.model.element.Modifier.STATIC)) {
                return 1;
            }
            Element e = trees.getElement(new TreePath(getCurrentPath(), f));
            check("5", mods.contains(javax.lang.model.element.Modifier.FINAL)
                    && ((javax.lang.model.element.VariableElement) e).getConstantValue() != null,
                    f.getName() + " is a constant");
            return 0;
        }

        @Override
        public Void visitMethod(MethodTree m, Void v) {
            inside = (ExecutableElement) trees.getElement(getCurrentPath());
            calls.computeIfAbsent(inside, k -> new java.util.LinkedHashSet<>());
            String name = m.getName().toString();
            long lines = endLine(m) - line(m) + 1;
            check("11", lines <= MOST_LINES, name + " has " + lines + " lines");
            check("11", m.getParameters().size() <= MOST_PARAMETERS, name + "'s parameters");
            boolean isFace = inside.getEnclosingElement().getSimpleName().contentEquals("Quakebook");
            boolean isPublic = m.getModifiers().getFlags().contains(javax.lang.model.element.Modifier.PUBLIC);
            check("1", isFace && isPublic || !face.contains(name), name + " bears a name of the face");
            check("6", !Set.of("equals", "hashCode", "toString").contains(name), name);
            super.visitMethod(m, v);
            inside = null;
            return null;
        }

        private void called(Tree t, Element e) {
            if (!(e instanceof ExecutableElement)) {
                return;
            }
            ExecutableElement to = (ExecutableElement) e;
            TypeElement owner = (TypeElement) to.getEnclosingElement();
            if (owner.getQualifiedName().toString().startsWith("Quakebook")) {
                if (inside != null) {
                    calls.get(inside).add(to);
                }
                return;
            }
            String name = to.getKind() == ElementKind.CONSTRUCTOR ? owner.getSimpleName().toString()
                    : to.getSimpleName().toString();
            String types = to.getParameters().stream().map(p -> p.asType().toString())
                    .collect(Collectors.joining(","));
            String full = owner.getQualifiedName() + "." + name + "(" + types + ")";
            check("4", LIBRARY.contains(full), "line " + line(t) + " calls " + full);
        }

        @Override
        public Void visitMethodInvocation(MethodInvocationTree t, Void v) {
            called(t, trees.getElement(new TreePath(getCurrentPath(), t)));
            return super.visitMethodInvocation(t, v);
        }

        @Override
        public Void visitNewClass(NewClassTree t, Void v) {
            called(t, trees.getElement(getCurrentPath()));
            check("2", t.getClassBody() == null, "line " + line(t) + ": an anonymous class");
            return super.visitNewClass(t, v);
        }

        @Override
        public Void visitThrow(ThrowTree t, Void v) {
            boolean isNew = t.getExpression() instanceof NewClassTree;
            check("6", isNew && ((NewClassTree) t.getExpression()).getArguments().stream()
                    .allMatch(a -> a.getKind() == Tree.Kind.STRING_LITERAL), "line " + line(t) + ": a throw");
            check("6", inside != null && inside.getKind() != ElementKind.CONSTRUCTOR,
                    "line " + line(t) + ": a throw in a constructor");
            return super.visitThrow(t, v);
        }

        @Override
        public Void visitBinary(BinaryTree t, Void v) {
            if (t.getKind() == Tree.Kind.PLUS) {
                check("10", typeOf(t).getKind().isPrimitive(), "line " + line(t) + ": a text joined by +");
            }
            if (t.getKind() == Tree.Kind.EQUAL_TO || t.getKind() == Tree.Kind.NOT_EQUAL_TO) {
                check("6", typeOf(t.getLeftOperand()).getKind().isPrimitive(), "line " + line(t) + ": == of objects");
            }
            if (t.getKind() == Tree.Kind.DIVIDE || t.getKind() == Tree.Kind.REMAINDER) {
                divisor(t);
            }
            return super.visitBinary(t, v);
        }

        /** A divisor is a constant other than 0, or one of the three variables that are tested ahead of it. */
        private void divisor(BinaryTree t) {
            Tree d = t.getRightOperand();
            if (d instanceof LiteralTree) {
                check("7", !"0".equals(d.toString()), "line " + line(t) + ": divides by 0");
                return;
            }
            Element e = trees.getElement(new TreePath(getCurrentPath(), d));
            Object value = e instanceof javax.lang.model.element.VariableElement
                    ? ((javax.lang.model.element.VariableElement) e).getConstantValue() : null;
            boolean isTested = Set.of("divisor", "b", "unit").contains(d.toString());
            check("7", value instanceof Integer && (Integer) value != 0 || isTested,
                    "line " + line(t) + ": divides by " + d);
        }

        @Override
        public Void visitVariable(VariableTree t, Void v) {
            TypeMirror type = trees.getElement(getCurrentPath()).asType();
            check("3", type.getKind() != TypeKind.DOUBLE && type.getKind() != TypeKind.FLOAT, t.getName() + "'s type");
            return super.visitVariable(t, v);
        }

        @Override
        public Void visitForLoop(ForLoopTree t, Void v) {
            boolean counts = t.getCondition() != null && t.getUpdate().size() == 1
                    && t.getUpdate().get(0).getExpression() instanceof UnaryTree;
            check("9", counts, "line " + line(t) + ": a loop without a counter");
            if (counts) {
                String counter = ((UnaryTree) t.getUpdate().get(0).getExpression()).getExpression().toString();
                boolean bound = Pattern.compile("\\b" + counter + " (<|<=|>|>=) ").matcher(t.getCondition().toString())
                        .find();
                check("9", bound, "line " + line(t) + ": " + counter + " has no bound");
            }
            return super.visitForLoop(t, v);
        }

        @Override
        public Void visitWhileLoop(WhileLoopTree t, Void v) {
            no("9", t, "a loop whose end is not in its head");
            return super.visitWhileLoop(t, v);
        }

        @Override
        public Void visitDoWhileLoop(DoWhileLoopTree t, Void v) {
            no("9", t, "a loop whose end is not in its head");
            return super.visitDoWhileLoop(t, v);
        }

        @Override
        public Void visitTry(TryTree t, Void v) {
            no("6", t, "try");
            return super.visitTry(t, v);
        }

        @Override
        public Void visitLambdaExpression(LambdaExpressionTree t, Void v) {
            no("2", t, "lambda");
            return super.visitLambdaExpression(t, v);
        }

        @Override
        public Void visitMemberReference(MemberReferenceTree t, Void v) {
            no("2", t, "method reference");
            return super.visitMemberReference(t, v);
        }

        @Override
        public Void visitSynchronized(SynchronizedTree t, Void v) {
            no("6", t, "synchronized");
            return super.visitSynchronized(t, v);
        }

        @Override
        public Void visitAssert(AssertTree t, Void v) {
            no("6", t, "assert");
            return super.visitAssert(t, v);
        }

        @Override
        public Void visitTypeCast(TypeCastTree t, Void v) {
            check("6", typeOf(t).getKind().isPrimitive(), "line " + line(t) + ": a cast of an object");
            return super.visitTypeCast(t, v);
        }
    }
}

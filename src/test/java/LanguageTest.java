import com.sun.source.tree.BinaryTree;
import com.sun.source.tree.CatchTree;
import com.sun.source.tree.ClassTree;
import com.sun.source.tree.CompilationUnitTree;
import com.sun.source.tree.LambdaExpressionTree;
import com.sun.source.tree.MemberReferenceTree;
import com.sun.source.tree.MethodInvocationTree;
import com.sun.source.tree.MethodTree;
import com.sun.source.tree.NewClassTree;
import com.sun.source.tree.ThrowTree;
import com.sun.source.tree.Tree;
import com.sun.source.tree.TryTree;
import com.sun.source.tree.VariableTree;
import com.sun.source.util.JavacTask;
import com.sun.source.util.TreePath;
import com.sun.source.util.TreePathScanner;
import com.sun.source.util.Trees;
import java.io.File;
import java.io.IOException;
import java.util.ArrayList;
import java.util.HashMap;
import java.util.HashSet;
import java.util.List;
import java.util.Map;
import java.util.Set;
import java.util.TreeSet;
import javax.lang.model.element.Element;
import javax.lang.model.element.ElementKind;
import javax.lang.model.element.ExecutableElement;
import javax.lang.model.element.Modifier;
import javax.lang.model.element.VariableElement;
import javax.lang.model.type.TypeKind;
import javax.tools.JavaCompiler;
import javax.tools.StandardJavaFileManager;
import javax.tools.ToolProvider;

/** Checks the rules of LANGUAGE.md that can be read from the source: the number of each stands in the message. */
public final class LanguageTest {
    private static final String SOURCE = "src/main/java/Pagehouse.java";
    private static final Set<String> FACE = Set.of("begin", "read", "write", "lock", "ticket", "point", "back", "roll",
        "end", "group", "breakRing", "pin", "unpin", "flush", "force", "mark", "cut", "crash", "mend", "spoil", "copy",
        "restore", "follow", "takeOver", "knock", "ofPage", "value", "ofWork", "ofRecord", "lockOf", "ring", "frames",
        "house", "owes", "wouldMend", "afterMend", "isSound", "digest");
    private static final Map<String, Set<String>> LIBRARY = Map.of(
        "java.lang.String", Set.of("length", "charAt", "isEmpty", "equals", "indexOf", "substring", "toCharArray"),
        "java.lang.StringBuilder", Set.of("append", "charAt", "setCharAt", "setLength", "deleteCharAt", "reverse",
            "length", "toString", "<init>"),
        "java.util.ArrayList", Set.of("<init>", "add", "get", "set", "remove", "size", "isEmpty", "clear"),
        "java.util.List", Set.of("add", "get", "set", "remove", "size", "isEmpty", "clear", "of"),
        "java.lang.Math", Set.of("max", "min", "abs", "floorDiv", "floorMod"),
        "java.lang.System", Set.of("arraycopy"),
        "java.util.Arrays", Set.of("copyOf", "copyOfRange", "fill"),
        "java.lang.Object", Set.of("<init>"));
    private static final Set<String> EXCEPTIONS = Set.of("java.lang.IllegalStateException",
        "java.lang.IllegalArgumentException", "java.lang.IndexOutOfBoundsException", "java.lang.ArithmeticException",
        "java.lang.UnsupportedOperationException", "java.util.NoSuchElementException", "java.lang.RuntimeException");
    private static int wrong = 0;

    private LanguageTest() {
    }

    private static void check(boolean isRight, String what) {
        if (!isRight) {
            wrong++;
            System.out.println(what);
        }
    }

    /** Reads the whole file once, and keeps who calls whom. */
    private static final class Reader extends TreePathScanner<Void, Void> {
        private final Trees trees;
        private final CompilationUnitTree unit;
        private final Map<ExecutableElement, Set<ExecutableElement>> calls = new HashMap<>();
        private final Map<ExecutableElement, Integer> builders = new HashMap<>();
        private final Set<String> publicMethods = new TreeSet<>();
        private ExecutableElement inside = null;
        private int classes = 0;

        private Reader(Trees trees, CompilationUnitTree unit) {
            this.trees = trees;
            this.unit = unit;
        }

        private Element here() {
            return trees.getElement(getCurrentPath());
        }

        private long line(Tree tree) {
            return unit.getLineMap().getLineNumber(trees.getSourcePositions().getStartPosition(unit, tree));
        }

        private long lines(Tree tree) {
            long end = trees.getSourcePositions().getEndPosition(unit, tree);
            return unit.getLineMap().getLineNumber(end) - line(tree) + 1;
        }

        @Override
        public Void visitClass(ClassTree tree, Void nothing) {
            classes++;
            boolean isTop = getCurrentPath().getParentPath().getLeaf() == unit;
            Set<Modifier> flags = tree.getModifiers().getFlags();
            if (isTop) {
                check(flags.contains(Modifier.PUBLIC) && flags.contains(Modifier.FINAL), "1: not public and final");
            } else {
                check(flags.contains(Modifier.STATIC) && !flags.contains(Modifier.PUBLIC)
                    && !flags.contains(Modifier.PROTECTED), "1: class " + tree.getSimpleName());
            }
            int fields = 0;
            for (Tree member : tree.getMembers()) {
                check(member.getKind() != Tree.Kind.BLOCK, "5: a block in " + tree.getSimpleName());
                if (member instanceof VariableTree field) {
                    Set<Modifier> has = field.getModifiers().getFlags();
                    boolean isStatic = has.contains(Modifier.STATIC);
                    fields += isStatic ? 0 : 1;
                    check(!isStatic || has.contains(Modifier.FINAL), "5: " + field.getName());
                    check(has.contains(Modifier.PRIVATE), "1: field " + field.getName());
                }
            }
            check(fields <= 20, "11: " + fields + " fields in " + tree.getSimpleName());
            return super.visitClass(tree, nothing);
        }

        @Override
        public Void visitMethod(MethodTree tree, Void nothing) {
            String name = tree.getName().toString();
            Set<Modifier> flags = tree.getModifiers().getFlags();
            Element owner = here().getEnclosingElement();
            boolean isTop = owner.getEnclosingElement().getKind() == ElementKind.PACKAGE;
            if (flags.contains(Modifier.PUBLIC) && isTop) {
                if (!name.equals("<init>")) {
                    publicMethods.add(name);
                }
            } else if (trees.getSourcePositions().getStartPosition(unit, tree) >= 0 && !name.equals("<init>")) {
                check(flags.contains(Modifier.PRIVATE), "1: method " + name + " is not private");
                check(!FACE.contains(name), "1: a private method is named " + name);
            }
            check(!Set.of("equals", "hashCode", "toString").contains(name), "6: " + name);
            check(tree.getParameters().size() <= 7, "11: " + name + " takes too many parameters");
            check(lines(tree) <= 60, "11: " + name + " has " + lines(tree) + " lines");
            check(!flags.contains(Modifier.SYNCHRONIZED), "6: synchronized " + name);
            inside = (ExecutableElement) here();
            calls.put(inside, new HashSet<>());
            super.visitMethod(tree, nothing);
            inside = null;
            return null;
        }

        private void called(ExecutableElement method, Tree tree) {
            Element owner = method.getEnclosingElement();
            String ownerName = owner.toString().replace("AbstractStringBuilder", "StringBuilder");
            if (ownerName.startsWith("Pagehouse")) {
                if (inside != null) {
                    calls.get(inside).add(method);
                }
                return;
            }
            String name = method.getSimpleName().toString();
            boolean isListed = LIBRARY.getOrDefault(ownerName, Set.of()).contains(name)
                || name.equals("<init>") && EXCEPTIONS.contains(ownerName) || name.equals("clone");
            check(isListed, "4: line " + line(tree) + " calls " + ownerName + "." + name);
        }

        @Override
        public Void visitMethodInvocation(MethodInvocationTree tree, Void nothing) {
            called((ExecutableElement) trees.getElement(new TreePath(getCurrentPath(), tree.getMethodSelect())), tree);
            return super.visitMethodInvocation(tree, nothing);
        }

        @Override
        public Void visitNewClass(NewClassTree tree, Void nothing) {
            ExecutableElement made = (ExecutableElement) here();
            called(made, tree);
            if (inside != null && made.getEnclosingElement().toString().equals("java.lang.StringBuilder")) {
                builders.merge(inside, 1, Integer::sum);
            }
            return super.visitNewClass(tree, nothing);
        }

        @Override
        public Void visitThrow(ThrowTree tree, Void nothing) {
            check(tree.getExpression() instanceof NewClassTree, "6: line " + line(tree) + " throws no new exception");
            check(inside != null && inside.getKind() == ElementKind.METHOD, "6: line " + line(tree) + " throws");
            return super.visitThrow(tree, nothing);
        }

        @Override
        public Void visitBinary(BinaryTree tree, Void nothing) {
            for (Tree side : List.of(tree.getLeftOperand(), tree.getRightOperand())) {
                String type = String.valueOf(trees.getTypeMirror(new TreePath(getCurrentPath(), side)));
                check(!type.startsWith("java.lang.String"), "10: line " + line(tree) + " joins or compares texts");
            }
            return super.visitBinary(tree, nothing);
        }

        @Override
        public Void visitVariable(VariableTree tree, Void nothing) {
            Element variable = here();
            TypeKind kind = variable.asType().getKind();
            String type = variable.asType().toString();
            boolean isListed = kind.isPrimitive() && kind != TypeKind.BYTE || type.startsWith("Pagehouse")
                || Set.of("int[]", "long[]", "char[]", "byte[]", "boolean[]", "java.lang.String",
                    "java.lang.StringBuilder").contains(type) || type.startsWith("java.util.ArrayList<Pagehouse.");
            check(isListed, "3: line " + line(tree) + " has the type " + type);
            check(!(variable instanceof VariableElement v && kind == TypeKind.DOUBLE && v.getConstantValue() != null),
                "5: line " + line(tree));
            return super.visitVariable(tree, nothing);
        }

        @Override
        public Void visitLambdaExpression(LambdaExpressionTree tree, Void nothing) {
            check(false, "2: a lambda in line " + line(tree));
            return null;
        }

        @Override
        public Void visitMemberReference(MemberReferenceTree tree, Void nothing) {
            check(false, "2: a method reference in line " + line(tree));
            return null;
        }

        @Override
        public Void visitTry(TryTree tree, Void nothing) {
            check(tree.getFinallyBlock() == null && tree.getResources().isEmpty(), "6: line " + line(tree));
            return super.visitTry(tree, nothing);
        }

        @Override
        public Void visitCatch(CatchTree tree, Void nothing) {
            check(false, "7: line " + line(tree) + " catches; nothing here needs that");
            return super.visitCatch(tree, nothing);
        }

        /** How many methods stand open at once, from this one on; a method that comes to itself is told as 1000. */
        private int depth(ExecutableElement method, Set<ExecutableElement> above, Map<ExecutableElement, Integer> known) {
            if (known.containsKey(method)) {
                return known.get(method);
            }
            if (!above.add(method)) {
                return 1000;
            }
            int deepest = 0;
            for (ExecutableElement next : calls.getOrDefault(method, Set.of())) {
                deepest = Math.max(deepest, depth(next, above, known));
            }
            above.remove(method);
            known.put(method, deepest + 1);
            return deepest + 1;
        }

        /** How many StringBuilders a method makes, with all that it calls. */
        private int buildersOf(ExecutableElement method) {
            int made = builders.getOrDefault(method, 0);
            for (ExecutableElement next : calls.getOrDefault(method, Set.of())) {
                made += buildersOf(next);
            }
            return made;
        }
    }

    private static void readFile() throws IOException {
        JavaCompiler compiler = ToolProvider.getSystemJavaCompiler();
        try (StandardJavaFileManager files = compiler.getStandardFileManager(null, null, null)) {
            JavacTask task = (JavacTask) compiler.getTask(null, files, null, List.of("-proc:none"), null,
                files.getJavaFileObjects(new File(SOURCE)));
            List<CompilationUnitTree> units = new ArrayList<>();
            task.parse().forEach(units::add);
            task.analyze();
            CompilationUnitTree unit = units.get(0);
            check(unit.getPackageName() == null, "1: a package line");
            check(unit.getTypeDecls().size() == 1, "1: more than one class");
            Reader reader = new Reader(Trees.instance(task), unit);
            reader.scan(unit, null);
            check(reader.classes <= 12, "11: " + reader.classes + " classes");
            check(reader.publicMethods.equals(new TreeSet<>(FACE)), "1: the face is " + reader.publicMethods);
            Map<ExecutableElement, Integer> known = new HashMap<>();
            int deepest = 0;
            for (ExecutableElement method : reader.calls.keySet()) {
                deepest = Math.max(deepest, reader.depth(method, new HashSet<>(), known));
            }
            System.out.println("calls go " + deepest + " deep");
            check(deepest <= 8, "11: calls go too deep");
            for (ExecutableElement method : deepest <= 8 ? reader.calls.keySet() : Set.<ExecutableElement>of()) {
                int made = reader.buildersOf(method);
                check(made <= 1, "12: " + method.getSimpleName() + " makes " + made + " StringBuilders a call");
            }
        }
    }

    public static void main(String[] args) throws IOException {
        readFile();
        System.out.println(wrong == 0 ? "the rules are kept" : wrong + " rules are broken");
        if (wrong != 0) {
            System.exit(1);
        }
    }
}

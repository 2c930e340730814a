import com.sun.source.tree.ArrayAccessTree;
import com.sun.source.tree.AssertTree;
import com.sun.source.tree.BinaryTree;
import com.sun.source.tree.BlockTree;
import com.sun.source.tree.ClassTree;
import com.sun.source.tree.CompilationUnitTree;
import com.sun.source.tree.CompoundAssignmentTree;
import com.sun.source.tree.ExpressionTree;
import com.sun.source.tree.ImportTree;
import com.sun.source.tree.LambdaExpressionTree;
import com.sun.source.tree.LiteralTree;
import com.sun.source.tree.MemberReferenceTree;
import com.sun.source.tree.MethodInvocationTree;
import com.sun.source.tree.MethodTree;
import com.sun.source.tree.NewArrayTree;
import com.sun.source.tree.NewClassTree;
import com.sun.source.tree.SynchronizedTree;
import com.sun.source.tree.ThrowTree;
import com.sun.source.tree.Tree;
import com.sun.source.tree.TryTree;
import com.sun.source.tree.TypeCastTree;
import com.sun.source.tree.VariableTree;
import com.sun.source.util.JavacTask;
import com.sun.source.util.TreePath;
import com.sun.source.util.TreePathScanner;
import com.sun.source.util.Trees;
import java.io.IOException;
import java.nio.file.Files;
import java.nio.file.Path;
import java.util.ArrayList;
import java.util.HashSet;
import java.util.LinkedHashMap;
import java.util.LinkedHashSet;
import java.util.List;
import java.util.Map;
import java.util.Set;
import java.util.TreeSet;
import java.util.regex.Matcher;
import java.util.regex.Pattern;
import javax.lang.model.element.Element;
import javax.lang.model.element.ExecutableElement;
import javax.lang.model.element.Modifier;
import javax.lang.model.element.TypeElement;
import javax.lang.model.type.TypeKind;
import javax.lang.model.type.TypeMirror;
import javax.tools.JavaCompiler;
import javax.tools.StandardJavaFileManager;
import javax.tools.ToolProvider;

/** Holds src/main/java/FilmFoot.java against the rules of ../shared/LANGUAGE.md that can be seen from the text alone. */
public final class LanguageTest {
    private static final Path SOURCE = Path.of("src/main/java/FilmFoot.java");
    private static final Path DOCUMENT = Path.of("../shared/DOC.md");
    private static final Map<String, Set<String>> LIBRARY = Map.of(
        "java.lang.String", Set.of("length", "charAt", "isEmpty", "equals", "indexOf", "substring", "toCharArray", "new"),
        "java.lang.StringBuilder", Set.of("new", "append", "charAt", "setCharAt", "setLength", "deleteCharAt", "reverse",
            "length", "toString"),
        "java.util.ArrayList", Set.of("new", "add", "get", "set", "remove", "size", "isEmpty", "clear"),
        "java.util.List", Set.of("add", "get", "set", "remove", "size", "isEmpty", "clear", "of"),
        "java.lang.System", Set.of("arraycopy"),
        "java.util.Arrays", Set.of("copyOf", "copyOfRange", "fill"),
        "java.lang.Object", Set.of("new"),
        "java.lang.Enum", Set.of("new"));
    private static final Set<String> NUMBERS = Set.of("java.lang.Integer", "java.lang.Long", "java.lang.Math");
    private static final Set<String> THROWN = Set.of("IllegalStateException", "IllegalArgumentException",
        "IndexOutOfBoundsException", "ArithmeticException", "UnsupportedOperationException", "NoSuchElementException",
        "RuntimeException");

    private static Trees trees;
    private static CompilationUnitTree unit;

    private LanguageTest() {
    }

    public static void main(String[] args) throws IOException {
        JavaCompiler compiler = ToolProvider.getSystemJavaCompiler();
        try (StandardJavaFileManager files = compiler.getStandardFileManager(null, null, null)) {
            JavacTask task = (JavacTask) compiler.getTask(null, files, null, List.of("-proc:none"), null,
                files.getJavaFileObjects(SOURCE));
            unit = task.parse().iterator().next();
            task.analyze();
            trees = Trees.instance(task);
            Finds finds = new Finds();
            finds.scan(unit, null);
            face(finds);
            classes(finds);
            trees(finds);
            recursion(finds);
            size(finds);
        }
        Check.end();
    }

    /** No find is due: each one is printed. */
    private static void none(String words, Iterable<String> finds) {
        Check.sentence(words);
        Check.due("nothing found", true, true);
        for (String find : finds) {
            Check.due(find, true, false);
        }
    }

    // ---- rule 1

    private static void face(Finds finds) throws IOException {
        Set<String> wanted = documentFace();
        Check.sentence("the public constructor, methods and constants of the document and no other");
        Check.due("calls of the document", wanted.size(), 40);
        Set<String> missing = new TreeSet<>(wanted);
        missing.removeAll(finds.face);
        none("the public constructor, methods and constants of the document", missing);
        Set<String> more = new TreeSet<>(finds.face);
        more.removeAll(wanted);
        none("no other public, protected or package-visible member", more);
        none("No private method bears the name of a public one", finds.namesakes());
        none("one file, without a package line", unit.getPackageName() == null ? List.of() : List.of("a package"));
    }

    /** The lines between the class line and its end, as they stand in the document. */
    private static Set<String> documentFace() throws IOException {
        String document = Files.readString(DOCUMENT);
        Matcher block = Pattern.compile("```java\n(.*?)```", Pattern.DOTALL).matcher(document);
        Set<String> face = new TreeSet<>();
        if (block.find()) {
            for (String line : block.group(1).split("\n")) {
                if (line.startsWith("    ")) {
                    face.add(line.trim().replace(";", ""));
                }
            }
        }
        return face;
    }

    // ---- rules 2, 5

    private static void classes(Finds finds) {
        none("static nested classes, private or package-visible", finds.looseClasses);
        none("Static fields are final, constants or an enum's values()", finds.looseStatics);
        none("no static initialiser block", finds.blocks);
    }

    // ---- rules 2, 4, 6, 7, 10, 12

    private static void trees(Finds finds) {
        none("no lambda, no method reference, assert, synchronized", finds.barred);
        none("The library: only what stands here", finds.library);
        none("throw new E() or throw new E(\"a written text\")", finds.looseThrows);
        none("an index is looked at before it is used", finds.indexes);
        none("a divisor before it divides", finds.divisors);
        none("joining texts by StringBuilder (not by +)", finds.joins);
        none("all rows are made in constructors", finds.made);
    }

    // ---- rules 8, 11

    private static void recursion(Finds finds) {
        Set<String> open = new TreeSet<>();
        for (ExecutableElement method : finds.calls.keySet()) {
            if (finds.isRecursive(method) && !method.getModifiers().contains(Modifier.PRIVATE)) {
                open.add(finds.nameOf(method));
            }
        }
        none("Recursion: private methods that call one another", open);
        Set<String> deep = new TreeSet<>();
        for (ExecutableElement method : finds.calls.keySet()) {
            if (finds.depth(method, new HashSet<>()) > 8) {
                deep.add(finds.nameOf(method));
            }
        }
        none("calls that are no recursion go at most eight deep", deep);
    }

    private static void size(Finds finds) {
        none("A method takes at most seven parameters", finds.parameters);
        none("Methods stay short (some sixty lines)", finds.lengths);
        none("a class some twenty fields beside its constants", finds.fields);
        Check.sentence("the file has at most some twelve classes");
        Check.due(finds.classes + " classes", finds.classes <= 12, true);
    }

    /** What stands in the file. */
    private static final class Finds extends TreePathScanner<Void, Void> {
        private final Set<String> face = new TreeSet<>();
        private final Set<String> looseClasses = new TreeSet<>();
        private final Set<String> looseStatics = new TreeSet<>();
        private final Set<String> blocks = new TreeSet<>();
        private final Set<String> barred = new TreeSet<>();
        private final Set<String> library = new TreeSet<>();
        private final Set<String> looseThrows = new TreeSet<>();
        private final Set<String> indexes = new TreeSet<>();
        private final Set<String> divisors = new TreeSet<>();
        private final Set<String> joins = new TreeSet<>();
        private final Set<String> made = new TreeSet<>();
        private final Set<String> parameters = new TreeSet<>();
        private final Set<String> lengths = new TreeSet<>();
        private final Set<String> fields = new TreeSet<>();
        private final Map<ExecutableElement, Set<ExecutableElement>> calls = new LinkedHashMap<>();
        private int classes = 0;

        // ---- where a tree stands

        private long lineOf(Tree tree) {
            return unit.getLineMap().getLineNumber(trees.getSourcePositions().getStartPosition(unit, tree));
        }

        private long lastLineOf(Tree tree) {
            return unit.getLineMap().getLineNumber(trees.getSourcePositions().getEndPosition(unit, tree));
        }

        private String at(Tree tree) {
            return "line " + lineOf(tree) + ": " + tree.toString().lines().findFirst().orElse("");
        }

        private Tree around(Tree.Kind... kinds) {
            for (TreePath path = getCurrentPath().getParentPath(); path != null; path = path.getParentPath()) {
                if (List.of(kinds).contains(path.getLeaf().getKind())) {
                    return path.getLeaf();
                }
            }
            return null;
        }

        private MethodTree method() {
            return (MethodTree) around(Tree.Kind.METHOD);
        }

        private static boolean isConstructor(MethodTree method) {
            return method != null && method.getReturnType() == null;
        }

        private TypeMirror typeOf(Tree tree) {
            return trees.getTypeMirror(new TreePath(getCurrentPath(), tree));
        }

        private boolean isText(Tree tree) {
            TypeMirror type = typeOf(tree);
            return type != null && type.toString().equals("java.lang.String");
        }

        String nameOf(ExecutableElement method) {
            return method.getEnclosingElement().getSimpleName() + "." + method.getSimpleName();
        }

        private boolean isOwn(Element element) {
            for (Element outer = element; outer != null; outer = outer.getEnclosingElement()) {
                if (outer instanceof TypeElement type && type.getQualifiedName().contentEquals("FilmFoot")) {
                    return true;
                }
            }
            return false;
        }

        // ---- classes, fields, methods

        @Override
        public Void visitClass(ClassTree tree, Void none) {
            classes++;
            Element element = trees.getElement(getCurrentPath());
            Set<Modifier> modifiers = element.getModifiers();
            boolean outer = element.getSimpleName().contentEquals("FilmFoot");
            boolean loose = outer ? !modifiers.contains(Modifier.PUBLIC) || !modifiers.contains(Modifier.FINAL)
                : modifiers.contains(Modifier.PUBLIC) || modifiers.contains(Modifier.PROTECTED)
                    || !modifiers.contains(Modifier.STATIC);
            if (loose) {
                looseClasses.add(at(tree));
            }
            int own = 0;
            for (Tree member : tree.getMembers()) {
                own += member instanceof VariableTree field && !field.getModifiers().getFlags().contains(Modifier.STATIC) ? 1 : 0;
            }
            if (own > 20) {
                fields.add(element.getSimpleName() + " has " + own);
            }
            return super.visitClass(tree, none);
        }

        @Override
        public Void visitVariable(VariableTree tree, Void none) {
            Set<Modifier> modifiers = tree.getModifiers().getFlags();
            Tree parent = getCurrentPath().getParentPath().getLeaf();
            boolean field = parent instanceof ClassTree;
            Element owner = trees.getElement(getCurrentPath()).getEnclosingElement();
            if (field && modifiers.contains(Modifier.STATIC) && !modifiers.contains(Modifier.FINAL)) {
                looseStatics.add(at(tree));
            }
            if (field && owner.getSimpleName().contentEquals("FilmFoot") && !modifiers.contains(Modifier.PRIVATE)) {
                face.add(tree.toString().replace(";", "").replaceAll("\\s+", " ").trim());
            }
            return super.visitVariable(tree, none);
        }

        @Override
        public Void visitMethod(MethodTree tree, Void none) {
            ExecutableElement element = (ExecutableElement) trees.getElement(getCurrentPath());
            calls.computeIfAbsent(element, own -> new LinkedHashSet<>());
            boolean outer = element.getEnclosingElement().getSimpleName().contentEquals("FilmFoot");
            if (outer && !element.getModifiers().contains(Modifier.PRIVATE)) {
                face.add(signature(tree));
            }
            if (tree.getParameters().size() > 7) {
                parameters.add(at(tree));
            }
            if (lastLineOf(tree) - lineOf(tree) >= 60) {
                lengths.add(at(tree));
            }
            return super.visitMethod(tree, none);
        }

        private static String signature(MethodTree tree) {
            StringBuilder text = new StringBuilder();
            for (Modifier modifier : tree.getModifiers().getFlags()) {
                text.append(modifier).append(' ');
            }
            text.append(isConstructor(tree) ? "FilmFoot" : tree.getReturnType() + " " + tree.getName()).append('(');
            List<String> parts = new ArrayList<>();
            for (VariableTree part : tree.getParameters()) {
                parts.add(part.getType() + " " + part.getName());
            }
            text.append(String.join(", ", parts)).append(')');
            for (ExpressionTree thrown : tree.getThrows()) {
                text.append(" throws ").append(thrown);
            }
            return text.toString();
        }

        /** Methods beside the face that bear the name of one of the face. */
        Set<String> namesakes() {
            Set<String> names = new HashSet<>();
            for (ExecutableElement method : calls.keySet()) {
                if (method.getModifiers().contains(Modifier.PUBLIC)) {
                    names.add(method.getSimpleName().toString());
                }
            }
            Set<String> namesakes = new TreeSet<>();
            for (ExecutableElement method : calls.keySet()) {
                String name = method.getSimpleName().toString();
                if (!method.getModifiers().contains(Modifier.PUBLIC) && !name.equals("<init>") && names.contains(name)) {
                    namesakes.add(nameOf(method));
                }
            }
            return namesakes;
        }

        // ---- calls

        @Override
        public Void visitMethodInvocation(MethodInvocationTree tree, Void none) {
            called((ExecutableElement) trees.getElement(getCurrentPath()), tree);
            return super.visitMethodInvocation(tree, none);
        }

        private void called(ExecutableElement target, Tree tree) {
            if (target == null) {
                library.add(at(tree));
            } else if (isOwn(target)) {
                ExecutableElement from = caller();
                if (from != null) {
                    calls.computeIfAbsent(from, own -> new LinkedHashSet<>()).add(target);
                }
            } else if (!isAllowed(target)) {
                library.add(at(tree));
            }
        }

        private ExecutableElement caller() {
            for (TreePath path = getCurrentPath(); path != null; path = path.getParentPath()) {
                if (path.getLeaf() instanceof MethodTree) {
                    return (ExecutableElement) trees.getElement(path);
                }
            }
            return null;
        }

        private static boolean isAllowed(ExecutableElement target) {
            String owner = ((TypeElement) target.getEnclosingElement()).getQualifiedName().toString();
            String name = target.getSimpleName().toString().replace("<init>", "new");
            if (NUMBERS.contains(owner)) {
                return target.getModifiers().contains(Modifier.STATIC) && !name.endsWith("Exact");
            }
            return LIBRARY.getOrDefault(owner, Set.of()).contains(name)
                || name.equals("new") && THROWN.contains(target.getEnclosingElement().getSimpleName().toString());
        }

        /** Whether a method comes back to itself. */
        boolean isRecursive(ExecutableElement method) {
            return behind(method).contains(method);
        }

        private Set<ExecutableElement> behind(ExecutableElement method) {
            Set<ExecutableElement> behind = new LinkedHashSet<>();
            List<ExecutableElement> open = new ArrayList<>(List.of(method));
            while (!open.isEmpty()) {
                for (ExecutableElement next : calls.getOrDefault(open.remove(0), Set.of())) {
                    if (behind.add(next)) {
                        open.add(next);
                    }
                }
            }
            return behind;
        }

        /** The longest way down, methods that call one another counted once. */
        int depth(ExecutableElement method, Set<ExecutableElement> above) {
            int deepest = 0;
            Set<ExecutableElement> circle = new LinkedHashSet<>(List.of(method));
            for (ExecutableElement other : behind(method)) {
                if (behind(other).contains(method)) {
                    circle.add(other);
                }
            }
            Set<ExecutableElement> standing = new HashSet<>(above);
            standing.addAll(circle);
            for (ExecutableElement one : circle) {
                for (ExecutableElement next : calls.getOrDefault(one, Set.of())) {
                    if (!standing.contains(next)) {
                        deepest = Math.max(deepest, depth(next, standing));
                    }
                }
            }
            return deepest + 1;
        }

        // ---- what is made, thrown, barred

        @Override
        public Void visitNewClass(NewClassTree tree, Void none) {
            MethodTree method = method();
            boolean thrown = getCurrentPath().getParentPath().getLeaf() instanceof ThrowTree;
            if (method != null && !isConstructor(method) && !thrown) {
                made.add(at(tree));
            }
            if (tree.getClassBody() == null) {
                called((ExecutableElement) trees.getElement(getCurrentPath()), tree);
            }
            return super.visitNewClass(tree, none);
        }

        @Override
        public Void visitNewArray(NewArrayTree tree, Void none) {
            MethodTree method = method();
            if (method != null && !isConstructor(method)) {
                made.add(at(tree));
            }
            return super.visitNewArray(tree, none);
        }

        @Override
        public Void visitThrow(ThrowTree tree, Void none) {
            boolean plain = tree.getExpression() instanceof NewClassTree made
                && THROWN.contains(made.getIdentifier().toString()) && made.getArguments().size() <= 1
                && made.getArguments().stream().allMatch(text -> text instanceof LiteralTree);
            if (!plain || isConstructor(method())) {
                looseThrows.add(at(tree));
            }
            return super.visitThrow(tree, none);
        }

        @Override
        public Void visitTry(TryTree tree, Void none) {
            if (tree.getFinallyBlock() != null || !tree.getResources().isEmpty()) {
                looseThrows.add(at(tree));
            }
            return super.visitTry(tree, none);
        }

        @Override
        public Void visitBlock(BlockTree tree, Void none) {
            if (getCurrentPath().getParentPath().getLeaf() instanceof ClassTree && tree.isStatic()) {
                blocks.add(at(tree));
            }
            return super.visitBlock(tree, none);
        }

        @Override
        public Void visitLambdaExpression(LambdaExpressionTree tree, Void none) {
            barred.add(at(tree));
            return super.visitLambdaExpression(tree, none);
        }

        @Override
        public Void visitMemberReference(MemberReferenceTree tree, Void none) {
            barred.add(at(tree));
            return super.visitMemberReference(tree, none);
        }

        @Override
        public Void visitAssert(AssertTree tree, Void none) {
            barred.add(at(tree));
            return super.visitAssert(tree, none);
        }

        @Override
        public Void visitSynchronized(SynchronizedTree tree, Void none) {
            barred.add(at(tree));
            return super.visitSynchronized(tree, none);
        }

        @Override
        public Void visitTypeCast(TypeCastTree tree, Void none) {
            if (!typeOf(tree.getType()).getKind().isPrimitive()) {
                barred.add(at(tree));
            }
            return super.visitTypeCast(tree, none);
        }

        @Override
        public Void visitImport(ImportTree tree, Void none) {
            String name = tree.getQualifiedIdentifier().toString();
            if (!Set.of("java.util.Arrays", "java.util.ArrayList", "java.util.List", "java.util.Iterator",
                "java.util.NoSuchElementException").contains(name)) {
                library.add(at(tree));
            }
            return super.visitImport(tree, none);
        }

        // ---- indexes and divisors

        /** An index is taken as looked at when the method tests it against this array's length. */
        @Override
        public Void visitArrayAccess(ArrayAccessTree tree, Void none) {
            MethodTree method = method();
            String test = tree.getIndex() + " < " + tree.getExpression() + ".length";
            if (method == null || !tested(method, test) && !tested(method, refused(test))) {
                indexes.add(at(tree));
            }
            return super.visitArrayAccess(tree, none);
        }

        private static String refused(String test) {
            return test.replace(" < ", " >= ");
        }

        private static boolean tested(MethodTree method, String test) {
            return Pattern.compile("\\b" + Pattern.quote(test) + "\\b").matcher(method.toString()).find();
        }

        @Override
        public Void visitBinary(BinaryTree tree, Void none) {
            boolean divides = tree.getKind() == Tree.Kind.DIVIDE || tree.getKind() == Tree.Kind.REMAINDER;
            if (divides && !isSafe(tree.getRightOperand())) {
                divisors.add(at(tree));
            }
            if (tree.getKind() == Tree.Kind.PLUS && (isText(tree.getLeftOperand()) || isText(tree.getRightOperand()))) {
                joins.add(at(tree));
            }
            return super.visitBinary(tree, none);
        }

        private boolean isSafe(ExpressionTree divisor) {
            if (divisor instanceof LiteralTree literal) {
                return literal.getValue() instanceof Number number && number.longValue() != 0;
            }
            return method() != null && tested(method(), divisor + " > 0");
        }

        @Override
        public Void visitCompoundAssignment(CompoundAssignmentTree tree, Void none) {
            if (tree.getKind() == Tree.Kind.DIVIDE_ASSIGNMENT || tree.getKind() == Tree.Kind.REMAINDER_ASSIGNMENT) {
                divisors.add(at(tree));
            }
            if (isText(tree.getVariable()) || typeOf(tree.getVariable()).getKind() == TypeKind.ERROR) {
                joins.add(at(tree));
            }
            return super.visitCompoundAssignment(tree, none);
        }
    }
}

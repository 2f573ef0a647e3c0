import com.sun.source.tree.*;
import com.sun.source.util.JavacTask;
import com.sun.source.util.TreePath;
import com.sun.source.util.TreePathScanner;
import com.sun.source.util.Trees;
import java.io.File;
import java.util.ArrayList;
import java.util.HashMap;
import java.util.HashSet;
import java.util.LinkedHashSet;
import java.util.List;
import java.util.Map;
import java.util.Set;
import javax.lang.model.element.Element;
import javax.lang.model.element.ElementKind;
import javax.lang.model.element.ExecutableElement;
import javax.lang.model.element.Modifier;
import javax.lang.model.element.TypeElement;
import javax.lang.model.type.TypeKind;
import javax.tools.JavaCompiler;
import javax.tools.StandardJavaFileManager;
import javax.tools.ToolProvider;

/** The rules of LANGUAGE.md, as far as the source shows them; and the face that the document tells. */
final class RulesTest {
    private static final Check CHECK = new Check("RulesTest");
    private static final Set<String> FACE = Set.of("feed(int,int)", "head()", "of(int,int)", "turn(int,int,int)",
            "choice()", "way(int,int,int)", "step(int,int,int,int)", "chosen(int,int)", "answer(int,int,int)",
            "quickest(int,int,int)", "table(int,int,int)", "see(int,int,int)", "asks(int,int,int)", "seen(int,int)",
            "fits(int,int)", "best(int,int)", "slip(int,int,int)", "suits(int)", "tell(int)", "untell()",
            "parts(int,int,int)", "ask(int,int)", "taught(int,int,int)", "first(int,int)", "root(long,int)",
            "firsts(long,int,int)", "enough(long,int)", "undo()", "redo()", "body(int)", "act(int,int,int)",
            "trace(int)", "keep(int,int)", "row(int,int,int)", "put(int,int,long)", "element(int,int)",
            "shift(int,int,int,int,int)", "taken(int,int)", "count(int)");
    private static final Set<String> LIBRARY = Set.of("Math.abs", "Math.min", "Math.max", "System.arraycopy");
    private static final Set<Tree.Kind> FORBIDDEN = Set.of(Tree.Kind.THROW, Tree.Kind.TRY, Tree.Kind.CATCH,
            Tree.Kind.SYNCHRONIZED, Tree.Kind.ASSERT, Tree.Kind.LAMBDA_EXPRESSION, Tree.Kind.MEMBER_REFERENCE,
            Tree.Kind.STRING_LITERAL, Tree.Kind.IMPORT, Tree.Kind.ENHANCED_FOR_LOOP, Tree.Kind.DO_WHILE_LOOP,
            Tree.Kind.TYPE_CAST, Tree.Kind.ANNOTATION);

    private static Trees trees;
    private static CompilationUnitTree unit;
    private static final Map<Element, Set<Element>> CALLS = new HashMap<>();

    public static void main(String[] args) throws Exception {
        JavaCompiler compiler = ToolProvider.getSystemJavaCompiler();
        StandardJavaFileManager files = compiler.getStandardFileManager(null, null, null);
        JavacTask task = (JavacTask) compiler.getTask(null, files, null, null, null,
                files.getJavaFileObjects(new File("src/main/java/HeadReckons.java")));
        trees = Trees.instance(task);
        unit = task.parse().iterator().next();
        task.analyze();
        ClassTree main = (ClassTree) unit.getTypeDecls().get(0);
        CHECK.due("classes in the file", unit.getTypeDecls().size(), 1);
        checkFace(main);
        new Walk().scan(unit, null);
        checkDepth();
        CHECK.end();
    }

    private static void checkFace(ClassTree main) {
        TypeElement type = (TypeElement) trees.getElement(TreePath.getPath(unit, main));
        CHECK.that("the class is public and final",
                type.getModifiers().containsAll(Set.of(Modifier.PUBLIC, Modifier.FINAL)));
        Set<String> face = new HashSet<>();
        Set<String> constants = new HashSet<>();
        for (Element member : type.getEnclosedElements()) {
            boolean isPublic = member.getModifiers().contains(Modifier.PUBLIC);
            boolean isPrivate = member.getModifiers().contains(Modifier.PRIVATE);
            CHECK.that(member + " is public or private", isPublic || isPrivate);
            if (member.getKind() == ElementKind.METHOD && isPublic) {
                face.add(member.toString());
            } else if (member.getKind() == ElementKind.FIELD && isPublic) {
                constants.add(member.toString());
            } else if (member.getKind() == ElementKind.CONSTRUCTOR) {
                CHECK.that("the constructor is the document's", member.toString().equals("HeadReckons()"));
            } else {
                CHECK.that(member + " is private", isPrivate);
            }
        }
        CHECK.that("the face is the document's", face.equals(FACE));
        CHECK.that("so are the constants", constants.equals(Set.of("BAD", "NOT", "FULL", "STATE", "VOID")));
    }

    private static final class Walk extends TreePathScanner<Void, Void> {
        private int classes;

        @Override
        public Void scan(Tree tree, Void none) {
            if (tree != null && FORBIDDEN.contains(tree.getKind()) && !isNarrowing(tree)) {
                CHECK.that(line(tree) + " has no " + tree.getKind(), false);
            }
            return super.scan(tree, none);
        }

        /** Casts stand among numbers alone. */
        private boolean isNarrowing(Tree tree) {
            return tree instanceof TypeCastTree cast && cast.getType() instanceof PrimitiveTypeTree;
        }

        private static long line(Tree tree) {
            return unit.getLineMap().getLineNumber(trees.getSourcePositions().getStartPosition(unit, tree));
        }

        private static long lastLine(Tree tree) {
            return unit.getLineMap().getLineNumber(trees.getSourcePositions().getEndPosition(unit, tree));
        }

        @Override
        public Void visitClass(ClassTree tree, Void none) {
            classes++;
            CHECK.that("classes are 12 at most", classes <= 12);
            if (classes > 1) {
                Set<Modifier> modifiers = tree.getModifiers().getFlags();
                CHECK.that(tree.getSimpleName() + " is private, static, final",
                        modifiers.containsAll(Set.of(Modifier.PRIVATE, Modifier.STATIC, Modifier.FINAL)));
            }
            int fields = 0;
            for (Tree member : tree.getMembers()) {
                if (member instanceof VariableTree field) {
                    boolean isStatic = field.getModifiers().getFlags().contains(Modifier.STATIC);
                    boolean isFinal = field.getModifiers().getFlags().contains(Modifier.FINAL);
                    CHECK.that("static " + field.getName() + " is final", !isStatic || isFinal);
                    fields += isStatic ? 0 : 1;
                }
                CHECK.that("no initialiser block", !(member instanceof BlockTree));
            }
            CHECK.that("fields of " + tree.getSimpleName() + " are 20 at most", fields <= 20);
            return super.visitClass(tree, none);
        }

        @Override
        public Void visitMethod(MethodTree tree, Void none) {
            String name = tree.getName().toString();
            CHECK.that(name + " is short", lastLine(tree) - line(tree) < 60);
            CHECK.that(name + " takes 7 at most", tree.getParameters().size() <= 7);
            boolean isFace = tree.getModifiers().getFlags().contains(Modifier.PUBLIC);
            CHECK.that(name + " bears no public name", isFace || FACE.stream().noneMatch(f -> f.startsWith(name + "(")));
            CALLS.putIfAbsent(trees.getElement(getCurrentPath()), new LinkedHashSet<>());
            return super.visitMethod(tree, none);
        }

        private boolean inLoop() {
            for (TreePath path = getCurrentPath(); path != null; path = path.getParentPath()) {
                if (path.getLeaf() instanceof WhileLoopTree || path.getLeaf() instanceof ForLoopTree) {
                    return true;
                }
            }
            return false;
        }

        private String methodName() {
            for (TreePath path = getCurrentPath(); path != null; path = path.getParentPath()) {
                if (path.getLeaf() instanceof MethodTree method) {
                    return method.getName().toString();
                }
            }
            return "";
        }

        @Override
        public Void visitNewClass(NewClassTree tree, Void none) {
            CHECK.that(line(tree) + ": objects are made by constructors alone",
                    methodName().equals("<init>") && tree.getClassBody() == null);
            CHECK.that(line(tree) + ": constructors hand out nothing of the object that they make",
                    tree.getArguments().isEmpty());
            return super.visitNewClass(tree, none);
        }

        @Override
        public Void visitNewArray(NewArrayTree tree, Void none) {
            String method = methodName();
            CHECK.that(line(tree) + ": arrays are made by constructors alone",
                    method.isEmpty() || method.equals("<init>") && !inLoop());
            return super.visitNewArray(tree, none);
        }

        @Override
        public Void visitForLoop(ForLoopTree tree, Void none) {
            CHECK.that(line(tree) + ": a loop has a condition", tree.getCondition() != null);
            return super.visitForLoop(tree, none);
        }

        @Override
        public Void visitBinary(BinaryTree tree, Void none) {
            TypeKind kind = trees.getTypeMirror(getCurrentPath()).getKind();
            CHECK.that(line(tree) + ": signs join numbers alone", kind.isPrimitive());
            if (tree.getKind() == Tree.Kind.DIVIDE || tree.getKind() == Tree.Kind.REMAINDER) {
                CHECK.that(line(tree) + ": the divisor is known or was looked at", isSafeDivisor(tree.getRightOperand()));
            }
            return super.visitBinary(tree, none);
        }

        /** Numbers, constants, and the few divisors that the lines around test. */
        private boolean isSafeDivisor(ExpressionTree divisor) {
            if (divisor instanceof LiteralTree literal) {
                return ((Number) literal.getValue()).longValue() != 0;
            }
            return Set.of("PAIR_BASE", "right", "all", "toldCount", "p", "unit", "digits",
                    "INT_TENS[place]").contains(divisor.toString());
        }

        @Override
        public Void visitMethodInvocation(MethodInvocationTree tree, Void none) {
            ExecutableElement called = (ExecutableElement) trees.getElement(getCurrentPath());
            String owner = called.getEnclosingElement().toString();
            if (!owner.startsWith("HeadReckons")) {
                String name = called.getEnclosingElement().getSimpleName() + "." + called.getSimpleName();
                CHECK.that(line(tree) + ": the library's " + name, LIBRARY.contains(name) || owner.equals("java.lang.Object"));
            }
            CHECK.that(line(tree) + ": constructors call no method",
                    !methodName().equals("<init>") || tree.getMethodSelect().toString().equals("super"));
            for (TreePath path = getCurrentPath(); path != null; path = path.getParentPath()) {
                if (path.getLeaf() instanceof MethodTree) {
                    CALLS.computeIfAbsent(trees.getElement(path), e -> new LinkedHashSet<>()).add(called);
                    break;
                }
            }
            return super.visitMethodInvocation(tree, none);
        }
    }

    private static boolean reaches(Element from, Element to, Set<Element> seen) {
        for (Element called : CALLS.getOrDefault(from, Set.of())) {
            if (called.equals(to) || (seen.add(called) && reaches(called, to, seen))) {
                return true;
            }
        }
        return false;
    }

    /** The longest row of calls, the library's counted too, those that call themselves again left out. */
    private static List<Element> longest(Element from, Set<Element> recursive, Map<Element, List<Element>> known) {
        if (known.containsKey(from)) {
            return known.get(from);
        }
        known.put(from, List.of());
        List<Element> best = List.of();
        for (Element called : CALLS.getOrDefault(from, Set.of())) {
            List<Element> row = longest(called, recursive, known);
            best = row.size() > best.size() ? row : best;
        }
        List<Element> all = new ArrayList<>();
        if (!recursive.contains(from)) {
            all.add(from);
        }
        all.addAll(best);
        known.put(from, all);
        return all;
    }

    private static void checkDepth() {
        Set<Element> recursive = new HashSet<>();
        for (Element method : CALLS.keySet()) {
            if (reaches(method, method, new HashSet<>())) {
                recursive.add(method);
                CHECK.that(method + " carries its depth",
                        method.toString().matches("(read(Any|All|Compared|Sum|Product|Operand|Opened)\\(int\\)"
                                + "|(own|fromAbove|nearest|run)\\(.*)"));
            }
        }
        Map<Element, List<Element>> known = new HashMap<>();
        for (Element method : CALLS.keySet()) {
            List<Element> row = longest(method, recursive, known);
            if (row.size() > 8) {
                System.out.println(row);
            }
            CHECK.that(method + " goes 8 deep at most: " + row.size(), row.size() <= 8);
        }
    }
}

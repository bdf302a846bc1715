import com.sun.source.tree.BinaryTree;
import com.sun.source.tree.CatchTree;
import com.sun.source.tree.ClassTree;
import com.sun.source.tree.CompilationUnitTree;
import com.sun.source.tree.CompoundAssignmentTree;
import com.sun.source.tree.DoWhileLoopTree;
import com.sun.source.tree.ExpressionTree;
import com.sun.source.tree.ExpressionStatementTree;
import com.sun.source.tree.ForLoopTree;
import com.sun.source.tree.ImportTree;
import com.sun.source.tree.LambdaExpressionTree;
import com.sun.source.tree.MemberReferenceTree;
import com.sun.source.tree.MethodInvocationTree;
import com.sun.source.tree.MethodTree;
import com.sun.source.tree.NewClassTree;
import com.sun.source.tree.ThrowTree;
import com.sun.source.tree.Tree;
import com.sun.source.tree.TryTree;
import com.sun.source.tree.UnaryTree;
import com.sun.source.tree.VariableTree;
import com.sun.source.tree.WhileLoopTree;
import com.sun.source.util.JavacTask;
import com.sun.source.util.SourcePositions;
import com.sun.source.util.TreePath;
import com.sun.source.util.TreePathScanner;
import com.sun.source.util.TreeScanner;
import com.sun.source.util.Trees;
import java.io.File;
import java.util.ArrayList;
import java.util.HashMap;
import java.util.LinkedHashSet;
import java.util.List;
import java.util.Map;
import java.util.Set;
import java.util.TreeSet;
import javax.lang.model.element.Element;
import javax.lang.model.element.ElementKind;
import javax.lang.model.element.Modifier;
import javax.lang.model.element.VariableElement;
import javax.lang.model.type.ArrayType;
import javax.lang.model.type.TypeMirror;
import javax.tools.JavaCompiler;
import javax.tools.StandardJavaFileManager;
import javax.tools.ToolProvider;

/** Looks through the class's own source for what LANGUAGE.md rules out; it stands for no promise of the document. */
public final class LanguageTest {
    private static final String SOURCE = "src/main/java/Sheetengine.java";
    private static final int MOST_DEEP = 8;
    private static final Set<String> FACE = Set.of("token", "rub", "enter", "number", "text", "truth", "clear", "fill",
            "goOn", "name", "putIn", "takeOut", "guard", "bound", "form", "goal", "undo", "redo", "knock", "input",
            "slip", "value", "formula", "shown", "ofPlace", "reads", "why", "sorted", "filtered", "grouped", "whatIf",
            "reckoned", "house", "isSound", "digest");
    private static final Set<String> LIBRARY = Set.of("String.length", "String.charAt", "String.isEmpty",
            "String.equals", "String.indexOf", "String.substring", "String.toCharArray", "StringBuilder.append",
            "StringBuilder.charAt", "StringBuilder.setCharAt", "StringBuilder.setLength", "StringBuilder.deleteCharAt",
            "StringBuilder.reverse", "StringBuilder.length", "StringBuilder.toString", "AbstractStringBuilder.length",
            "AbstractStringBuilder.charAt", "AbstractStringBuilder.setLength", "CharSequence.length",
            "Math.min", "Math.max", "Math.abs", "Integer.compare", "Long.compare", "Long.bitCount", "System.arraycopy");
    private static final Set<String> MADE = Set.of("StringBuilder", "IllegalArgumentException", "IllegalStateException");
    private static final Set<String> TYPES = Set.of("int", "long", "boolean", "char", "String", "StringBuilder");
    private static int wrong = 0;

    private static final Map<Element, Set<Element>> CALLS = new HashMap<>();
    private static final Map<Element, Integer> DEPTHS = new HashMap<>();
    private static final List<Element> PUBLIC = new ArrayList<>();

    public static void main(String[] args) throws Exception {
        JavaCompiler compiler = ToolProvider.getSystemJavaCompiler();
        try (StandardJavaFileManager files = compiler.getStandardFileManager(null, null, null)) {
            JavacTask task = (JavacTask) compiler.getTask(null, files, null, List.of("-proc:none", "-Xlint:all"), null,
                    files.getJavaFileObjects(new File(SOURCE)));
            CompilationUnitTree unit = task.parse().iterator().next();
            task.analyze();
            look(unit, Trees.instance(task));
        }
        for (Element method : PUBLIC) {
            int depth = depth(method, new LinkedHashSet<>());
            due(depth <= MOST_DEEP, method + " goes " + depth + " calls deep: " + longest(method));
        }
        System.out.println(wrong == 0 ? "the source keeps to the rules that are looked at" : wrong + " rules are broken");
        if (wrong > 0) {
            System.exit(1);
        }
    }

    private static void due(boolean is, String what) {
        if (!is) {
            wrong++;
            System.out.println(what);
        }
    }

    private static int depth(Element method, Set<Element> open) {
        Integer known = DEPTHS.get(method);
        if (known != null) {
            return known;
        }
        if (!open.add(method)) {
            due(false, method + " calls itself");
            return 0;
        }
        int depth = 1;
        for (Element called : CALLS.getOrDefault(method, Set.of())) {
            depth = Math.max(depth, 1 + depth(called, open));
        }
        open.remove(method);
        DEPTHS.put(method, depth);
        return depth;
    }

    private static String longest(Element method) {
        StringBuilder path = new StringBuilder();
        Element at = method;
        while (at != null) {
            path.append(' ').append(at.getEnclosingElement().getSimpleName()).append('.').append(at.getSimpleName());
            Element next = null;
            for (Element called : CALLS.getOrDefault(at, Set.of())) {
                if (next == null || DEPTHS.get(called) > DEPTHS.get(next)) {
                    next = called;
                }
            }
            at = next;
        }
        return path.toString();
    }

    private static void look(CompilationUnitTree unit, Trees trees) throws Exception {
        SourcePositions positions = trees.getSourcePositions();
        String text = unit.getSourceFile().getCharContent(true).toString();
        for (int k = 0; k < text.length(); k++) {
            due(text.charAt(k) < 128, "a sign beyond 127 at " + k);
        }
        Set<String> classes = new TreeSet<>();
        new TreePathScanner<Void, Void>() {
            private Element inside;

            private String where(Tree tree) {
                return "line " + unit.getLineMap().getLineNumber(positions.getStartPosition(unit, tree)) + ": ";
            }

            private long lines(Tree tree) {
                return unit.getLineMap().getLineNumber(positions.getEndPosition(unit, tree))
                        - unit.getLineMap().getLineNumber(positions.getStartPosition(unit, tree)) + 1;
            }

            @Override
            public Void visitImport(ImportTree tree, Void none) {
                due(false, where(tree) + "an import");
                return super.visitImport(tree, none);
            }

            @Override
            public Void visitClass(ClassTree tree, Void none) {
                classes.add(tree.getSimpleName().toString());
                boolean isOuter = getCurrentPath().getParentPath().getLeaf().getKind() == Tree.Kind.COMPILATION_UNIT;
                Set<Modifier> flags = tree.getModifiers().getFlags();
                due(isOuter || flags.contains(Modifier.STATIC), where(tree) + "a class inside that is not static");
                int fields = 0;
                for (Tree member : tree.getMembers()) {
                    if (member instanceof VariableTree field) {
                        Set<Modifier> own = field.getModifiers().getFlags();
                        fields += own.contains(Modifier.STATIC) ? 0 : 1;
                        due(!own.contains(Modifier.STATIC) || own.contains(Modifier.FINAL), where(field) + "static, not final");
                        due(!isOuter || own.contains(Modifier.PRIVATE), where(field) + "a field that can be seen");
                    }
                }
                due(fields <= 20, where(tree) + fields + " fields");
                return super.visitClass(tree, none);
            }

            @Override
            public Void visitMethod(MethodTree tree, Void none) {
                Element before = inside;
                inside = trees.getElement(getCurrentPath());
                CALLS.putIfAbsent(inside, new LinkedHashSet<>());
                String name = tree.getName().toString();
                Set<Modifier> flags = tree.getModifiers().getFlags();
                boolean isOfFace = inside.getEnclosingElement().getSimpleName().contentEquals("Sheetengine")
                        && flags.contains(Modifier.PUBLIC);
                if (isOfFace) {
                    PUBLIC.add(inside);
                    due(FACE.contains(name) || name.equals("<init>"), where(tree) + "a public method that is not of the face");
                } else {
                    due(!FACE.contains(name), where(tree) + name + " bears the name of a public method");
                    due(flags.contains(Modifier.PRIVATE) || !inside.getEnclosingElement().getSimpleName()
                            .contentEquals("Sheetengine"), where(tree) + name + " can be seen");
                }
                due(lines(tree) <= 64, where(tree) + name + " has " + lines(tree) + " lines");
                due(tree.getParameters().size() <= 7, where(tree) + name + " has many parameters");
                super.visitMethod(tree, none);
                inside = before;
                return null;
            }

            @Override
            public Void visitVariable(VariableTree tree, Void none) {
                VariableElement variable = (VariableElement) trees.getElement(getCurrentPath());
                boolean isStatic = tree.getModifiers().getFlags().contains(Modifier.STATIC);
                due(!isStatic || variable.getConstantValue() != null, where(tree) + tree.getName() + " is static, but no constant");
                due(isType(variable.asType()), where(tree) + variable.asType() + " is no type of the language");
                return super.visitVariable(tree, none);
            }

            /** Primitive types, texts and own classes, and rows of them; the class needs no other ones. */
            private boolean isType(TypeMirror type) {
                if (type instanceof ArrayType row) {
                    return !(row.getComponentType() instanceof ArrayType) && isType(row.getComponentType());
                }
                String name = type.toString();
                return name.startsWith("Sheetengine.") || TYPES.contains(name.substring(name.lastIndexOf('.') + 1));
            }

            @Override
            public Void visitWhileLoop(WhileLoopTree tree, Void none) {
                loop(tree, tree.getCondition(), tree.getStatement());
                return super.visitWhileLoop(tree, none);
            }

            @Override
            public Void visitDoWhileLoop(DoWhileLoopTree tree, Void none) {
                loop(tree, tree.getCondition(), tree.getStatement());
                return super.visitDoWhileLoop(tree, none);
            }

            @Override
            public Void visitForLoop(ForLoopTree tree, Void none) {
                due(tree.getUpdate().size() == 1, where(tree) + "a for without its one step");
                for (ExpressionStatementTree update : tree.getUpdate()) {
                    loop(tree, tree.getCondition(), update);
                }
                return super.visitForLoop(tree, none);
            }

            /** The end of a loop stands in its own lines: a counter that is stepped there, against a bound. */
            private void loop(Tree tree, ExpressionTree condition, Tree steps) {
                String told = condition == null ? "" : condition.toString();
                boolean[] has = new boolean[1];
                new TreeScanner<Void, Void>() {
                    @Override
                    public Void visitUnary(UnaryTree step, Void none) {
                        boolean isStep = step.getKind() != Tree.Kind.LOGICAL_COMPLEMENT && step.getKind() != Tree.Kind.UNARY_MINUS;
                        has[0] |= isStep && isBounded(told, step.getExpression().toString());
                        return super.visitUnary(step, none);
                    }

                    @Override
                    public Void visitCompoundAssignment(CompoundAssignmentTree step, Void none) {
                        has[0] |= isBounded(told, step.getVariable().toString());
                        return super.visitCompoundAssignment(step, none);
                    }
                }.scan(steps, null);
                due(has[0], where(tree) + "a loop without a counter against a bound: " + told);
            }

            private boolean isBounded(String condition, String counter) {
                return condition.matches(".*\\b" + counter + " [<>].*");
            }

            @Override
            public Void visitMethodInvocation(MethodInvocationTree tree, Void none) {
                called(trees.getElement(getCurrentPath()), tree);
                return super.visitMethodInvocation(tree, none);
            }

            @Override
            public Void visitNewClass(NewClassTree tree, Void none) {
                Element made = trees.getElement(getCurrentPath());
                due(inside == null || inside.getKind() == ElementKind.CONSTRUCTOR || made == null || !isOwn(made),
                        where(tree) + "makes an object in a call");
                if (made != null && isOwn(made)) {
                    called(made, tree);
                } else {
                    due(MADE.contains(tree.getIdentifier().toString()), where(tree) + "makes a " + tree.getIdentifier());
                }
                return super.visitNewClass(tree, none);
            }

            private boolean isOwn(Element e) {
                Element at = e;
                while (at.getEnclosingElement() != null && at.getEnclosingElement().getKind() != ElementKind.PACKAGE) {
                    at = at.getEnclosingElement();
                }
                return at.getSimpleName().contentEquals("Sheetengine");
            }

            private void called(Element e, Tree tree) {
                if (e.getSimpleName().contentEquals("<init>") && !isOwn(e)) {
                    return;
                }
                if (!isOwn(e)) {
                    String full = e.getEnclosingElement().getSimpleName() + "." + e.getSimpleName();
                    due(LIBRARY.contains(full), where(tree) + full + " is not of the library");
                } else if (inside != null) {
                    CALLS.get(inside).add(e);
                }
            }

            @Override
            public Void visitLambdaExpression(LambdaExpressionTree tree, Void none) {
                due(false, where(tree) + "a lambda");
                return super.visitLambdaExpression(tree, none);
            }

            @Override
            public Void visitMemberReference(MemberReferenceTree tree, Void none) {
                due(false, where(tree) + "a method reference");
                return super.visitMemberReference(tree, none);
            }

            @Override
            public Void visitTry(TryTree tree, Void none) {
                due(false, where(tree) + "a try");
                return super.visitTry(tree, none);
            }

            @Override
            public Void visitCatch(CatchTree tree, Void none) {
                due(false, where(tree) + "a catch");
                return super.visitCatch(tree, none);
            }

            @Override
            public Void visitThrow(ThrowTree tree, Void none) {
                due(inside.getKind() != ElementKind.CONSTRUCTOR, where(tree) + "a throw in a constructor");
                due(tree.getExpression() instanceof NewClassTree, where(tree) + "throws what it did not make");
                return super.visitThrow(tree, none);
            }

            @Override
            public Void visitBinary(BinaryTree tree, Void none) {
                TypeMirror type = trees.getTypeMirror(getCurrentPath());
                due(type == null || !type.toString().equals("java.lang.String"), where(tree) + "texts joined by +");
                boolean isSame = tree.getKind() == Tree.Kind.EQUAL_TO || tree.getKind() == Tree.Kind.NOT_EQUAL_TO;
                TypeMirror left = trees.getTypeMirror(new TreePath(getCurrentPath(), tree.getLeftOperand()));
                due(!isSame || left == null || !left.toString().equals("java.lang.String"), where(tree) + "texts compared by ==");
                return super.visitBinary(tree, none);
            }

            @Override
            public Void visitCompoundAssignment(CompoundAssignmentTree tree, Void none) {
                TypeMirror type = trees.getTypeMirror(getCurrentPath());
                due(type == null || !type.toString().equals("java.lang.String"), where(tree) + "texts joined by +=");
                return super.visitCompoundAssignment(tree, none);
            }
        }.scan(unit, null);
        due(classes.size() <= 12, "there are " + classes.size() + " classes: " + classes);
        due(PUBLIC.size() == FACE.size() + 1, "the face has " + PUBLIC.size() + " methods and constructors");
    }
}

import com.sun.source.tree.*;
import com.sun.source.util.*;
import java.io.File;
import java.util.*;
import javax.lang.model.element.*;
import javax.lang.model.type.TypeKind;
import javax.lang.model.type.TypeMirror;
import javax.tools.*;

/** Looks at the source of EpubDesk for what LANGUAGE.md rules out and a compiler can see. */
public final class LanguageRules {
    private static final Set<String> LIBRARY = Set.of(
        "java.lang.String.length", "java.lang.String.charAt", "java.lang.String.isEmpty", "java.lang.String.equals",
        "java.lang.Math.max", "java.lang.Math.min", "java.lang.Math.abs",
        "java.lang.System.arraycopy", "java.util.Arrays.fill", "java.lang.Object.<init>");
    private static final Set<String> FACE = Set.of(
        "feed", "end", "check", "message", "about", "entry", "name", "resource", "order", "contents", "label");
    private static final int MOST_DEEP = 8;
    private static final int MOST_LINES = 60;
    private static final int MOST_PARAMETERS = 7;
    private static final int MOST_FIELDS = 20;
    private static final int MOST_CLASSES = 13;

    private final Map<ExecutableElement, Set<ExecutableElement>> calls = new LinkedHashMap<>();
    private final Map<ExecutableElement, List<String>> longest = new HashMap<>();
    private int classes = 0;
    private int wrong = 0;
    private CompilationUnitTree unit;
    private Trees trees;

    public static void main(String[] args) throws Exception {
        String source = args.length > 0 ? args[0] : "src/main/java/EpubDesk.java";
        LanguageRules rules = new LanguageRules();
        rules.look(new File(source));
        System.out.println(rules.wrong == 0 ? "the language is kept to" : rules.wrong + " places are outside the language");
        if (rules.wrong != 0) {
            System.exit(1);
        }
    }

    private void look(File source) throws Exception {
        JavaCompiler compiler = ToolProvider.getSystemJavaCompiler();
        StandardJavaFileManager files = compiler.getStandardFileManager(null, null, null);
        JavacTask task = (JavacTask) compiler.getTask(null, files, null, List.of("-proc:none"), null,
            files.getJavaFileObjects(source));
        unit = task.parse().iterator().next();
        trees = Trees.instance(task);
        task.analyze();
        for (ImportTree line : unit.getImports()) {
            String text = line.getQualifiedIdentifier().toString();
            if (!text.equals("java.util.Arrays") && !text.equals("java.util.ArrayList") && !text.equals("java.util.List")) {
                say(line, "import of " + text);
            }
        }
        new Look().scan(unit, null);
        if (classes > MOST_CLASSES) {
            say(unit, classes + " classes");
        }
        for (ExecutableElement method : calls.keySet()) {
            if (method.getModifiers().contains(Modifier.PUBLIC) && FACE.contains(method.getSimpleName().toString())) {
                List<String> path = deepest(method, new ArrayDeque<>());
                if (path.size() > MOST_DEEP) {
                    say(unit, path.size() + " calls deep: " + path);
                }
            }
        }
    }

    private List<String> deepest(ExecutableElement method, Deque<ExecutableElement> open) {
        if (longest.containsKey(method)) {
            return longest.get(method);
        }
        if (open.contains(method)) {
            say(unit, "recursion through " + method);
            return List.of();
        }
        open.push(method);
        List<String> best = List.of();
        for (ExecutableElement next : calls.getOrDefault(method, Set.of())) {
            List<String> path = deepest(next, open);
            if (path.size() > best.size()) {
                best = path;
            }
        }
        open.pop();
        List<String> whole = new ArrayList<>();
        whole.add(method.getEnclosingElement().getSimpleName() + "." + method.getSimpleName());
        whole.addAll(best);
        longest.put(method, whole);
        return whole;
    }

    private void say(Tree tree, String what) {
        wrong++;
        long line = unit.getLineMap().getLineNumber(Math.max(0, trees.getSourcePositions().getStartPosition(unit, tree)));
        System.out.println("line " + line + ": " + what);
    }

    private final class Look extends TreePathScanner<Void, Void> {
        private ExecutableElement inside = null;

        private Element here() {
            return trees.getElement(getCurrentPath());
        }

        @Override
        public Void visitClass(ClassTree tree, Void none) {
            classes++;
            Element own = here();
            boolean nested = own.getEnclosingElement().getKind() != ElementKind.PACKAGE;
            if (nested && !tree.getModifiers().getFlags().contains(Modifier.STATIC)) {
                say(tree, "a class that isn't static");
            }
            int fields = 0;
            for (Tree member : tree.getMembers()) {
                if (member instanceof VariableTree field && !field.getModifiers().getFlags().contains(Modifier.STATIC)) {
                    fields++;
                }
                if (member instanceof VariableTree field && field.getModifiers().getFlags().contains(Modifier.STATIC)
                    && !field.getModifiers().getFlags().contains(Modifier.FINAL)) {
                    say(field, "a static field that isn't final");
                }
                if (member instanceof BlockTree) {
                    say(member, "an initialiser block");
                }
            }
            if (fields > MOST_FIELDS) {
                say(tree, fields + " fields");
            }
            return super.visitClass(tree, none);
        }

        @Override
        public Void visitMethod(MethodTree tree, Void none) {
            ExecutableElement method = (ExecutableElement) here();
            inside = method;
            calls.putIfAbsent(method, new LinkedHashSet<>());
            LineMap map = unit.getLineMap();
            SourcePositions at = trees.getSourcePositions();
            long lines = map.getLineNumber(at.getEndPosition(unit, tree)) - map.getLineNumber(at.getStartPosition(unit, tree)) + 1;
            if (lines > MOST_LINES) {
                say(tree, tree.getName() + " has " + lines + " lines");
            }
            if (tree.getParameters().size() > MOST_PARAMETERS) {
                say(tree, tree.getName() + " has " + tree.getParameters().size() + " parameters");
            }
            boolean isPublic = tree.getModifiers().getFlags().contains(Modifier.PUBLIC);
            if (FACE.contains(tree.getName().toString()) != (isPublic && !tree.getName().contentEquals("<init>"))) {
                say(tree, "the name or the modifier of " + tree.getName());
            }
            super.visitMethod(tree, none);
            inside = null;
            return null;
        }

        @Override
        public Void visitMethodInvocation(MethodInvocationTree tree, Void none) {
            ExecutableElement called = (ExecutableElement) trees.getElement(new TreePath(getCurrentPath(), tree.getMethodSelect()));
            String owner = ((TypeElement) called.getEnclosingElement()).getQualifiedName().toString();
            if (owner.startsWith("EpubDesk")) {
                if (inside != null) {
                    calls.get(inside).add(called);
                }
            } else if (!LIBRARY.contains(owner + "." + called.getSimpleName())) {
                say(tree, "a call of " + owner + "." + called.getSimpleName());
            }
            for (ExpressionTree argument : tree.getArguments()) {
                TypeMirror type = trees.getTypeMirror(new TreePath(getCurrentPath(), argument));
                if (owner.equals("java.util.Arrays") && type.toString().equals("boolean[]")) {
                    say(tree, "Arrays over booleans");
                }
            }
            return super.visitMethodInvocation(tree, none);
        }

        @Override
        public Void visitNewClass(NewClassTree tree, Void none) {
            if (inside != null && !inside.getSimpleName().contentEquals("<init>")) {
                say(tree, "an object made outside a constructor");
            }
            return super.visitNewClass(tree, none);
        }

        @Override
        public Void visitNewArray(NewArrayTree tree, Void none) {
            if (inside != null && !inside.getSimpleName().contentEquals("<init>")) {
                say(tree, "an array made outside a constructor");
            }
            return super.visitNewArray(tree, none);
        }

        @Override
        public Void visitBinary(BinaryTree tree, Void none) {
            boolean text = isText(tree.getLeftOperand()) || isText(tree.getRightOperand());
            if (text) {
                say(tree, "an operator on texts");
            }
            return super.visitBinary(tree, none);
        }

        private boolean isText(ExpressionTree tree) {
            TypeMirror type = trees.getTypeMirror(new TreePath(getCurrentPath(), tree));
            return type != null && type.getKind() == TypeKind.DECLARED && type.toString().equals("java.lang.String");
        }

        @Override
        public Void visitThrow(ThrowTree tree, Void none) {
            say(tree, "throw");
            return super.visitThrow(tree, none);
        }

        @Override
        public Void visitTry(TryTree tree, Void none) {
            say(tree, "try");
            return super.visitTry(tree, none);
        }

        @Override
        public Void visitLambdaExpression(LambdaExpressionTree tree, Void none) {
            say(tree, "a lambda");
            return super.visitLambdaExpression(tree, none);
        }

        @Override
        public Void visitMemberReference(MemberReferenceTree tree, Void none) {
            say(tree, "a method reference");
            return super.visitMemberReference(tree, none);
        }

        @Override
        public Void visitSynchronized(SynchronizedTree tree, Void none) {
            say(tree, "synchronized");
            return super.visitSynchronized(tree, none);
        }

        @Override
        public Void visitAssert(AssertTree tree, Void none) {
            say(tree, "assert");
            return super.visitAssert(tree, none);
        }

        @Override
        public Void visitEnhancedForLoop(EnhancedForLoopTree tree, Void none) {
            TypeMirror type = trees.getTypeMirror(new TreePath(getCurrentPath(), tree.getExpression()));
            if (type.getKind() != TypeKind.ARRAY) {
                say(tree, "a loop by an iterator");
            }
            return super.visitEnhancedForLoop(tree, none);
        }
    }
}

import com.sun.source.tree.AssertTree;
import com.sun.source.tree.BinaryTree;
import com.sun.source.tree.BlockTree;
import com.sun.source.tree.CatchTree;
import com.sun.source.tree.ClassTree;
import com.sun.source.tree.CompilationUnitTree;
import com.sun.source.tree.DoWhileLoopTree;
import com.sun.source.tree.EnhancedForLoopTree;
import com.sun.source.tree.ExpressionTree;
import com.sun.source.tree.ForLoopTree;
import com.sun.source.tree.ImportTree;
import com.sun.source.tree.LambdaExpressionTree;
import com.sun.source.tree.LiteralTree;
import com.sun.source.tree.MemberReferenceTree;
import com.sun.source.tree.MethodInvocationTree;
import com.sun.source.tree.MethodTree;
import com.sun.source.tree.NewClassTree;
import com.sun.source.tree.SwitchTree;
import com.sun.source.tree.SynchronizedTree;
import com.sun.source.tree.ThrowTree;
import com.sun.source.tree.Tree;
import com.sun.source.tree.TryTree;
import com.sun.source.tree.TypeCastTree;
import com.sun.source.tree.VariableTree;
import com.sun.source.tree.WhileLoopTree;
import com.sun.source.util.JavacTask;
import com.sun.source.util.TreePath;
import com.sun.source.util.TreePathScanner;
import com.sun.source.util.Trees;
import java.io.IOException;
import java.nio.file.Path;
import java.util.ArrayList;
import java.util.HashMap;
import java.util.HashSet;
import java.util.LinkedHashSet;
import java.util.List;
import java.util.Map;
import java.util.Set;
import java.util.TreeSet;
import javax.lang.model.element.Element;
import javax.lang.model.element.ElementKind;
import javax.lang.model.element.ExecutableElement;
import javax.lang.model.element.Modifier;
import javax.lang.model.element.TypeElement;
import javax.lang.model.type.ArrayType;
import javax.lang.model.type.DeclaredType;
import javax.lang.model.type.TypeKind;
import javax.lang.model.type.TypeMirror;
import javax.tools.JavaCompiler;
import javax.tools.StandardJavaFileManager;
import javax.tools.ToolProvider;

/**
 * Holds the program's text against ../shared/LANGUAGE.md, as far as its words can be looked up by the compiler's tree
 * of the text: each finding begins with the number of the rule. What only a reader can see (that an index is looked at
 * before it is used, that a loop ends) is not looked for here, but for the plainest cases.
 */
public final class LanguageTests {
    private static final Path PROGRAM = Path.of("src/main/java/Radiohearth.java");
    private static final int MOST_PARAMETERS = 7;
    private static final int MOST_LINES = 60;
    private static final int MOST_DEPTH = 8;
    private static final int MOST_CLASSES = 12;
    private static final int MOST_FIELDS = 20;

    private static final Set<String> LIBRARY = Set.of(
            "String.length", "String.charAt", "String.isEmpty", "String.equals", "String.indexOf", "String.substring",
            "String.toCharArray", "StringBuilder.append", "StringBuilder.charAt", "StringBuilder.setCharAt",
            "StringBuilder.setLength", "StringBuilder.deleteCharAt", "StringBuilder.reverse", "StringBuilder.length",
            "StringBuilder.toString", "ArrayList.add", "ArrayList.get", "ArrayList.set", "ArrayList.remove",
            "ArrayList.size", "ArrayList.isEmpty", "ArrayList.clear", "List.add", "List.get", "List.set",
            "List.remove", "List.size", "List.isEmpty", "List.clear", "System.arraycopy", "Arrays.copyOf",
            "Arrays.copyOfRange", "Arrays.fill");
    private static final Set<String> COUNTING = Set.of("Integer", "Long", "Math");
    private static final Set<String> MADE = Set.of("String", "StringBuilder", "ArrayList");
    private static final Set<String> THROWN = Set.of("IllegalStateException", "IllegalArgumentException",
            "IndexOutOfBoundsException", "ArithmeticException", "UnsupportedOperationException",
            "NoSuchElementException", "RuntimeException");
    private static final Set<String> OF_THE_MACHINE = Set.of("ArithmeticException", "IndexOutOfBoundsException",
            "RuntimeException");
    private static final Set<String> SINGLE = Set.of("String", "StringBuilder", "Integer", "Object");

    private static final Set<String> findings = new LinkedHashSet<>();

    public static void main(String[] args) throws IOException {
        JavaCompiler compiler = ToolProvider.getSystemJavaCompiler();
        if (compiler == null) {
            System.out.println("language: this Java has no compiler to read the program with");
            System.exit(1);
        }
        try (StandardJavaFileManager files = compiler.getStandardFileManager(null, null, null)) {
            List<String> options = List.of("--release", "17", "-proc:none");
            JavacTask task = (JavacTask) compiler.getTask(null, files, null, options, null,
                    files.getJavaFileObjects(PROGRAM));
            for (CompilationUnitTree unit : task.parse()) {
                task.analyze();
                Reader reader = new Reader(unit, Trees.instance(task));
                reader.scan(unit, null);
                reader.end();
            }
        }
        for (String finding : findings) {
            System.out.println("language: " + finding);
        }
        System.out.println("language: " + (findings.isEmpty() ? "as the rules say" : findings.size() + " findings"));
        if (!findings.isEmpty()) {
            System.exit(1);
        }
    }

    private static void must(boolean fine, String finding) {
        if (!fine) {
            findings.add(finding);
        }
    }

    private static String simple(TypeMirror type) {
        return type instanceof DeclaredType ? ((DeclaredType) type).asElement().getSimpleName().toString() : "" + type;
    }

    private static boolean isOwn(TypeMirror type) {
        return type instanceof DeclaredType && isOwn(((DeclaredType) type).asElement());
    }

    private static boolean isOwn(Element element) {
        Element outer = element;
        while (outer != null && outer.getKind() != ElementKind.PACKAGE) {
            if (outer.getSimpleName().contentEquals("Radiohearth")) {
                return true;
            }
            outer = outer.getEnclosingElement();
        }
        return false;
    }

    private static boolean isAllowed(TypeMirror type) {
        if (type.getKind().isPrimitive() || type.getKind() == TypeKind.VOID || type.getKind() == TypeKind.NULL) {
            return true;
        }
        if (type instanceof ArrayType) {
            TypeMirror part = ((ArrayType) type).getComponentType();
            boolean twice = part instanceof ArrayType && ((ArrayType) part).getComponentType().getKind().isPrimitive();
            return part.getKind().isPrimitive() || isOwn(part) || twice;
        }
        if (isOwn(type) || SINGLE.contains(simple(type))) {
            return true;
        }
        if (simple(type).equals("ArrayList") || simple(type).equals("List")) {
            TypeMirror held = ((DeclaredType) type).getTypeArguments().get(0);
            return isOwn(held) || simple(held).equals("Integer");
        }
        return false;
    }

    private static final class Reader extends TreePathScanner<Void, Void> {
        final CompilationUnitTree unit;
        final Trees trees;
        final Set<String> face = new TreeSet<>();
        final Set<String> hidden = new TreeSet<>();
        final Map<Element, Set<Element>> calls = new HashMap<>();
        int classes = 0;
        ExecutableElement method = null;

        Reader(CompilationUnitTree unit, Trees trees) {
            this.unit = unit;
            this.trees = trees;
        }

        void end() {
            must(unit.getPackageName() == null, "the file: a package line");
            must(classes <= MOST_CLASSES, "rule 11: " + classes + " classes");
            for (String name : hidden) {
                must(!face.contains(name), "rule 1: a private method bears the public name " + name);
            }
            for (Element start : calls.keySet()) {
                must(depth(start, new ArrayList<>()) <= MOST_DEPTH, "rule 11: calls go too deep from " + start);
            }
        }

        /** How many methods of the program stand open at once; a method that is open already is recursion. */
        int depth(Element start, List<Element> open) {
            if (open.contains(start)) {
                must(false, "rule 8: recursion of " + start + ", look at its guard");
                return 0;
            }
            open.add(start);
            int deepest = 0;
            for (Element next : calls.getOrDefault(start, Set.of())) {
                deepest = Math.max(deepest, depth(next, open));
            }
            open.remove(open.size() - 1);
            return deepest + 1;
        }

        String at(Tree tree) {
            long start = trees.getSourcePositions().getStartPosition(unit, tree);
            return " in line " + unit.getLineMap().getLineNumber(start);
        }

        TypeMirror typeOf(Tree tree) {
            return trees.getTypeMirror(new TreePath(getCurrentPath(), tree));
        }

        void call(Element element) {
            if (method != null && isOwn(element)) {
                calls.computeIfAbsent(method, key -> new HashSet<>()).add(element);
            }
        }

        @Override
        public Void visitImport(ImportTree tree, Void none) {
            Set<String> due = Set.of("java.util.ArrayList", "java.util.List", "java.util.Arrays", "java.util.Iterator",
                    "java.util.NoSuchElementException");
            must(due.contains(tree.getQualifiedIdentifier().toString()), "rule 4: import" + at(tree));
            return null;
        }

        @Override
        public Void visitClass(ClassTree tree, Void none) {
            classes++;
            TypeElement element = (TypeElement) trees.getElement(getCurrentPath());
            boolean inside = element.getEnclosingElement() instanceof TypeElement;
            Set<Modifier> words = element.getModifiers();
            if (inside) {
                must(words.contains(Modifier.STATIC) && !words.contains(Modifier.PUBLIC)
                        && !words.contains(Modifier.PROTECTED), "rule 1: the class " + element);
            } else {
                must(words.contains(Modifier.FINAL) && words.contains(Modifier.PUBLIC), "rule 1: the class " + element);
            }
            int fields = 0;
            for (Tree member : tree.getMembers()) {
                if (member instanceof VariableTree && !((VariableTree) member).getModifiers().getFlags()
                        .contains(Modifier.STATIC)) {
                    fields++;
                }
                must(!(member instanceof BlockTree), "rule 5: an initialiser block" + at(member));
            }
            must(fields <= MOST_FIELDS, "rule 11: " + fields + " fields in " + element);
            return super.visitClass(tree, none);
        }

        @Override
        public Void visitMethod(MethodTree tree, Void none) {
            ExecutableElement before = method;
            method = (ExecutableElement) trees.getElement(getCurrentPath());
            String name = tree.getName().toString();
            boolean isFace = method.getModifiers().contains(Modifier.PUBLIC);
            if (!name.equals("<init>")) {
                (isFace ? face : hidden).add(name);
            }
            must(!isFace || method.getEnclosingElement().getSimpleName().contentEquals("Radiohearth"),
                    "rule 1: " + name + " is public" + at(tree));
            must(!Set.of("equals", "hashCode", "toString").contains(name), "rule 6: " + name + at(tree));
            must(tree.getParameters().size() <= MOST_PARAMETERS, "rule 11: parameters of " + name + at(tree));
            must(tree.getReturnType() == null || isAllowed(method.getReturnType()), "rule 3: " + name + at(tree));
            long first = unit.getLineMap().getLineNumber(trees.getSourcePositions().getStartPosition(unit, tree));
            long last = unit.getLineMap().getLineNumber(
                    Math.max(1, trees.getSourcePositions().getEndPosition(unit, tree)));
            must(last - first < MOST_LINES, "rule 11: " + name + " has too many lines" + at(tree));
            super.visitMethod(tree, none);
            method = before;
            return null;
        }

        @Override
        public Void visitVariable(VariableTree tree, Void none) {
            Element element = trees.getElement(getCurrentPath());
            must(isAllowed(element.asType()), "rule 3: the type of " + tree.getName() + at(tree));
            if (element.getKind() == ElementKind.FIELD && element.getModifiers().contains(Modifier.STATIC)) {
                boolean plain = Set.of("int", "long", "boolean", "char", "String", "int[]", "long[]", "char[]",
                        "byte[]").contains(simple(element.asType()));
                must(plain && element.getModifiers().contains(Modifier.FINAL), "rule 5: " + tree.getName() + at(tree));
            }
            return super.visitVariable(tree, none);
        }

        @Override
        public Void visitMethodInvocation(MethodInvocationTree tree, Void none) {
            Element called = trees.getElement(new TreePath(getCurrentPath(), tree.getMethodSelect()));
            String owner = called.getEnclosingElement().getSimpleName().toString();
            String name = called.getSimpleName().toString();
            boolean counts = COUNTING.contains(owner) && called.getModifiers().contains(Modifier.STATIC)
                    && !name.endsWith("Exact") && ofWholeNumbers((ExecutableElement) called);
            boolean made = name.equals("<init>");
            boolean clone = name.equals("clone");
            must(isOwn(called) || made || counts || clone || LIBRARY.contains(owner + "." + name),
                    "rule 4: " + owner + "." + name + at(tree));
            call(called);
            return super.visitMethodInvocation(tree, none);
        }

        private static boolean ofWholeNumbers(ExecutableElement called) {
            for (Element parameter : called.getParameters()) {
                TypeKind kind = parameter.asType().getKind();
                if (kind != TypeKind.INT && kind != TypeKind.LONG) {
                    return false;
                }
            }
            return called.getReturnType().getKind() != TypeKind.FLOAT
                    && called.getReturnType().getKind() != TypeKind.DOUBLE;
        }

        @Override
        public Void visitNewClass(NewClassTree tree, Void none) {
            TypeMirror type = typeOf(tree.getIdentifier());
            boolean thrown = getCurrentPath().getParentPath().getLeaf() instanceof ThrowTree;
            must(isOwn(type) || MADE.contains(simple(type)) || thrown && THROWN.contains(simple(type)),
                    "rule 4: new " + type + at(tree));
            call(trees.getElement(getCurrentPath()));
            return super.visitNewClass(tree, none);
        }

        @Override
        public Void visitThrow(ThrowTree tree, Void none) {
            must(tree.getExpression() instanceof NewClassTree, "rule 6: throw of what is not new" + at(tree));
            if (tree.getExpression() instanceof NewClassTree) {
                NewClassTree made = (NewClassTree) tree.getExpression();
                List<? extends ExpressionTree> words = made.getArguments();
                must(words.isEmpty() || words.size() == 1 && words.get(0) instanceof LiteralTree,
                        "rule 6: the text of an exception" + at(tree));
            }
            must(method != null && method.getKind() != ElementKind.CONSTRUCTOR, "rule 6: throw" + at(tree));
            return super.visitThrow(tree, none);
        }

        @Override
        public Void visitTry(TryTree tree, Void none) {
            must(tree.getFinallyBlock() == null && tree.getResources().isEmpty(), "rule 6: try" + at(tree));
            return super.visitTry(tree, none);
        }

        @Override
        public Void visitCatch(CatchTree tree, Void none) {
            String caught = simple(typeOf(tree.getParameter()));
            must(THROWN.contains(caught) && !OF_THE_MACHINE.contains(caught), "catch of the machine's" + at(tree));
            return super.visitCatch(tree, none);
        }

        @Override
        public Void visitBinary(BinaryTree tree, Void none) {
            boolean texts = simple(typeOf(tree.getLeftOperand())).equals("String")
                    || simple(typeOf(tree.getRightOperand())).equals("String");
            must(!texts, "rule 10, rule 6: joined or compared texts" + at(tree));
            return super.visitBinary(tree, none);
        }

        @Override
        public Void visitTypeCast(TypeCastTree tree, Void none) {
            must(typeOf(tree.getType()).getKind().isPrimitive(), "rule 6: a cast, look at its test" + at(tree));
            return super.visitTypeCast(tree, none);
        }

        @Override
        public Void visitWhileLoop(WhileLoopTree tree, Void none) {
            must(!tree.getCondition().toString().equals("(true)"), "rule 9: while without an end" + at(tree));
            return super.visitWhileLoop(tree, none);
        }

        @Override
        public Void visitDoWhileLoop(DoWhileLoopTree tree, Void none) {
            must(!tree.getCondition().toString().equals("(true)"), "rule 9: do without an end" + at(tree));
            return super.visitDoWhileLoop(tree, none);
        }

        @Override
        public Void visitForLoop(ForLoopTree tree, Void none) {
            must(tree.getCondition() != null, "rule 9: for without an end" + at(tree));
            return super.visitForLoop(tree, none);
        }

        @Override
        public Void visitEnhancedForLoop(EnhancedForLoopTree tree, Void none) {
            must(typeOf(tree.getExpression()) instanceof ArrayType, "rule 12: for over a list" + at(tree));
            return super.visitEnhancedForLoop(tree, none);
        }

        @Override
        public Void visitSwitch(SwitchTree tree, Void none) {
            boolean texts = simple(typeOf(tree.getExpression())).equals("String");
            must(!texts, "rule 10: switch on texts" + at(tree));
            return super.visitSwitch(tree, none);
        }

        @Override
        public Void visitLambdaExpression(LambdaExpressionTree tree, Void none) {
            must(false, "rule 2: a lambda" + at(tree));
            return super.visitLambdaExpression(tree, none);
        }

        @Override
        public Void visitMemberReference(MemberReferenceTree tree, Void none) {
            must(false, "rule 2: a method reference" + at(tree));
            return super.visitMemberReference(tree, none);
        }

        @Override
        public Void visitSynchronized(SynchronizedTree tree, Void none) {
            must(false, "rule 6: synchronized" + at(tree));
            return super.visitSynchronized(tree, none);
        }

        @Override
        public Void visitAssert(AssertTree tree, Void none) {
            must(false, "rule 6: assert" + at(tree));
            return super.visitAssert(tree, none);
        }
    }
}

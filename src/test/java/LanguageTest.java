import com.sun.source.tree.AssertTree;
import com.sun.source.tree.BinaryTree;
import com.sun.source.tree.ClassTree;
import com.sun.source.tree.CompilationUnitTree;
import com.sun.source.tree.EnhancedForLoopTree;
import com.sun.source.tree.ImportTree;
import com.sun.source.tree.LambdaExpressionTree;
import com.sun.source.tree.LiteralTree;
import com.sun.source.tree.MemberReferenceTree;
import com.sun.source.tree.MethodInvocationTree;
import com.sun.source.tree.MethodTree;
import com.sun.source.tree.NewArrayTree;
import com.sun.source.tree.NewClassTree;
import com.sun.source.tree.PackageTree;
import com.sun.source.tree.SynchronizedTree;
import com.sun.source.tree.ThrowTree;
import com.sun.source.tree.Tree;
import com.sun.source.tree.TryTree;
import com.sun.source.tree.TypeCastTree;
import com.sun.source.tree.VariableTree;
import com.sun.source.util.JavacTask;
import com.sun.source.util.TreePathScanner;
import com.sun.source.util.Trees;
import java.io.File;
import java.util.HashMap;
import java.util.List;
import java.util.Map;
import java.util.Set;
import java.util.TreeSet;
import javax.lang.model.element.Element;
import javax.lang.model.element.ElementKind;
import javax.lang.model.element.ExecutableElement;
import javax.lang.model.element.Modifier;
import javax.lang.model.element.TypeElement;
import javax.lang.model.type.TypeKind;
import javax.lang.model.type.TypeMirror;
import javax.tools.JavaCompiler;
import javax.tools.StandardJavaFileManager;
import javax.tools.ToolProvider;

/**
 * LANGUAGE.md, as far as the source itself tells: the program is read by the compiler and its tree
 * looked through. It holds the program to what it uses by now, which is less than the rules leave.
 */
public final class LanguageTest {
    private static final String PROGRAM = "src/main/java/ThumbSea.java";
    /** Rule 4: what the program uses of the library; whatever comes new is looked up there first. */
    private static final Set<String> LIBRARY = Set.of("java.lang.Integer.bitCount",
        "java.lang.Math.max", "java.lang.Math.abs", "java.lang.Object.<init>");
    /** Rule 7: what divides in the program, and was seen to be above 0; a new one is looked at first. */
    private static final Set<String> DIVISORS = Set.of("STEP", "among", "ahead", "small", "divisor");
    private static final Set<TypeKind> NUMBERS = Set.of(TypeKind.INT, TypeKind.LONG, TypeKind.SHORT,
        TypeKind.BYTE, TypeKind.CHAR, TypeKind.BOOLEAN);
    private static final int MOST_PARAMETERS = 7;
    private static final int MOST_LINES = 60;
    private static final int MOST_CLASSES = 12;
    private static final int MOST_FIELDS = 20;
    private static final int DEEPEST = 8;

    public static void main(String[] args) throws Exception {
        JavaCompiler compiler = ToolProvider.getSystemJavaCompiler();
        StandardJavaFileManager files = compiler.getStandardFileManager(null, null, null);
        JavacTask task = (JavacTask) compiler.getTask(null, files, null, List.of("-proc:none"), null,
            files.getJavaFileObjects(new File(PROGRAM)));
        int units = 0;
        for (CompilationUnitTree unit : task.parse()) {
            units++;
            task.analyze();
            Reader reader = new Reader(unit, Trees.instance(task));
            reader.scan(unit, null);
            reader.end();
        }
        Check.same("one file", units, 1);
        Check.end();
    }

    private static void holds(String rule, boolean is) {
        Check.same(rule, is ? 1 : 0, 1);
    }

    /** Looks at every node; which methods call which is kept, and reckoned at the end. */
    private static final class Reader extends TreePathScanner<Void, Void> {
        private final CompilationUnitTree unit;
        private final Trees trees;
        private final Map<Element, Set<Element>> calls = new HashMap<>();
        private final Set<String> open = new TreeSet<>();
        private final Set<String> hidden = new TreeSet<>();
        private Element method;
        private int classes;

        Reader(CompilationUnitTree unit, Trees trees) {
            this.unit = unit;
            this.trees = trees;
        }

        void end() {
            holds("rule 11: classes", classes > 1 && classes <= MOST_CLASSES);
            hidden.retainAll(open);
            holds("rule 1: private methods named as public ones " + hidden, hidden.isEmpty());
            int deepest = 0;
            for (Element each : calls.keySet()) {
                deepest = Math.max(deepest, depth(each, new TreeSet<>()));
            }
            holds("rule 11: calls go " + deepest + " deep", deepest > 1 && deepest <= DEEPEST);
        }

        /** How many stand open at most from here on; a method that stands open is not gone into again. */
        private int depth(Element from, Set<String> standing) {
            String name = from.getEnclosingElement() + "." + from;
            if (!calls.containsKey(from) || !standing.add(name)) {
                return 0;
            }
            int below = 0;
            for (Element next : calls.get(from)) {
                below = Math.max(below, depth(next, standing));
            }
            standing.remove(name);
            return below + 1;
        }

        private String at(Tree tree) {
            long place = trees.getSourcePositions().getStartPosition(unit, tree);
            return " at line " + unit.getLineMap().getLineNumber(place);
        }

        private Element here() {
            return trees.getElement(getCurrentPath());
        }

        private boolean isOwn(Element element) {
            Element outer = element;
            while (outer.getEnclosingElement().getKind() != ElementKind.PACKAGE) {
                outer = outer.getEnclosingElement();
            }
            return outer.getSimpleName().contentEquals("ThumbSea");
        }

        private boolean isAllowed(TypeMirror type) {
            String name = type.toString();
            return NUMBERS.contains(type.getKind()) || name.startsWith("ThumbSea")
                || name.equals("int[]") || name.equals("boolean[]");
        }

        @Override
        public Void visitClass(ClassTree tree, Void none) {
            classes++;
            TypeElement type = (TypeElement) here();
            Set<Modifier> has = type.getModifiers();
            boolean outer = type.getEnclosingElement().getKind() == ElementKind.PACKAGE;
            holds("rule 1: the class" + at(tree), outer
                ? has.containsAll(Set.of(Modifier.PUBLIC, Modifier.FINAL))
                : has.containsAll(Set.of(Modifier.PRIVATE, Modifier.STATIC)));
            int fields = 0;
            for (Element member : type.getEnclosedElements()) {
                if (member.getKind() == ElementKind.FIELD) {
                    fields += member.getModifiers().contains(Modifier.STATIC) ? 0 : 1;
                }
                holds("rule 5: no block" + at(tree), member.getKind() != ElementKind.STATIC_INIT);
            }
            holds("rule 11: " + fields + " fields" + at(tree), fields <= MOST_FIELDS);
            return super.visitClass(tree, none);
        }

        @Override
        public Void visitVariable(VariableTree tree, Void none) {
            Element variable = here();
            boolean ofClass = variable.getKind() == ElementKind.FIELD;
            Set<Modifier> has = variable.getModifiers();
            holds("rule 3: type" + at(tree), isAllowed(variable.asType()));
            if (ofClass && has.contains(Modifier.STATIC)) {
                boolean constant = NUMBERS.contains(variable.asType().getKind());
                boolean values = String.valueOf(tree.getInitializer()).equals("values()");
                holds("rule 5: static is final and constant" + at(tree),
                    has.contains(Modifier.FINAL) && (constant || values));
            }
            boolean ofFace = variable.getEnclosingElement().getSimpleName().contentEquals("ThumbSea");
            if (ofClass && ofFace) {
                holds("rule 1: a field is private or of the face" + at(tree),
                    has.contains(Modifier.PRIVATE) || has.containsAll(Set.of(Modifier.PUBLIC,
                        Modifier.STATIC, Modifier.FINAL)));
            }
            return super.visitVariable(tree, none);
        }

        @Override
        public Void visitMethod(MethodTree tree, Void none) {
            ExecutableElement element = (ExecutableElement) here();
            String name = element.getSimpleName().toString();
            if (element.getModifiers().contains(Modifier.PUBLIC)) {
                open.add(name);
            } else if (element.getModifiers().contains(Modifier.PRIVATE)) {
                hidden.add(name);
            }
            hidden.remove("<init>");
            long end = trees.getSourcePositions().getEndPosition(unit, tree);
            long start = trees.getSourcePositions().getStartPosition(unit, tree);
            if (end > start) {
                long lines = unit.getLineMap().getLineNumber(end) - unit.getLineMap().getLineNumber(start) + 1;
                holds("rule 11: " + lines + " lines" + at(tree), lines <= MOST_LINES);
            }
            holds("rule 11: parameters" + at(tree), tree.getParameters().size() <= MOST_PARAMETERS);
            holds("rule 6: nothing is thrown" + at(tree), tree.getThrows().isEmpty());
            method = element;
            calls.put(element, new java.util.HashSet<>());
            super.visitMethod(tree, none);
            method = null;
            return null;
        }

        @Override
        public Void visitMethodInvocation(MethodInvocationTree tree, Void none) {
            Element called = here();
            String name = called.getEnclosingElement() + "." + called.getSimpleName();
            holds("rule 4: " + name + at(tree), isOwn(called) || LIBRARY.contains(name)
                || name.equals("java.lang.Enum.<init>"));
            if (method != null) {
                calls.get(method).add(called);
            }
            return super.visitMethodInvocation(tree, none);
        }

        /** The rows are made with the object, so that no call fills the one room. */
        private void madeWithTheObject(Tree tree) {
            boolean making = method == null || method.getKind() == ElementKind.CONSTRUCTOR;
            holds("rule 12: no call makes an object" + at(tree), making);
        }

        @Override
        public Void visitNewClass(NewClassTree tree, Void none) {
            madeWithTheObject(tree);
            return super.visitNewClass(tree, none);
        }

        @Override
        public Void visitNewArray(NewArrayTree tree, Void none) {
            madeWithTheObject(tree);
            return super.visitNewArray(tree, none);
        }

        @Override
        public Void visitLiteral(LiteralTree tree, Void none) {
            Object value = tree.getValue();
            holds("rule 3: no text, no null, no fraction" + at(tree), value instanceof Integer
                || value instanceof Long || value instanceof Character || value instanceof Boolean);
            return super.visitLiteral(tree, none);
        }

        @Override
        public Void visitTypeCast(TypeCastTree tree, Void none) {
            holds("rule 6: casts of numbers alone" + at(tree),
                NUMBERS.contains(trees.getTypeMirror(getCurrentPath()).getKind()));
            return super.visitTypeCast(tree, none);
        }

        /** Rule 7: a divisor is a written number, or one of DIVISORS. */
        @Override
        public Void visitBinary(BinaryTree tree, Void none) {
            if (tree.getKind() == Tree.Kind.DIVIDE || tree.getKind() == Tree.Kind.REMAINDER) {
                String divisor = tree.getRightOperand().toString();
                holds("rule 7: divided by " + divisor + at(tree),
                    divisor.matches("[1-9][0-9]*L?") || DIVISORS.contains(divisor));
            }
            return super.visitBinary(tree, none);
        }

        private Void refuse(String rule, Tree tree) {
            holds(rule + at(tree), false);
            return null;
        }

        @Override
        public Void visitPackage(PackageTree tree, Void none) {
            return refuse("no package", tree);
        }

        @Override
        public Void visitImport(ImportTree tree, Void none) {
            return refuse("rule 4: no import", tree);
        }

        @Override
        public Void visitLambdaExpression(LambdaExpressionTree tree, Void none) {
            return refuse("rule 2: no lambda", tree);
        }

        @Override
        public Void visitMemberReference(MemberReferenceTree tree, Void none) {
            return refuse("rule 2: no method reference", tree);
        }

        @Override
        public Void visitThrow(ThrowTree tree, Void none) {
            return refuse("rule 6: the document asks for no exception", tree);
        }

        @Override
        public Void visitTry(TryTree tree, Void none) {
            return refuse("rule 6: nothing is caught", tree);
        }

        @Override
        public Void visitSynchronized(SynchronizedTree tree, Void none) {
            return refuse("rule 6: no synchronized", tree);
        }

        @Override
        public Void visitAssert(AssertTree tree, Void none) {
            return refuse("rule 6: no assert", tree);
        }

        @Override
        public Void visitEnhancedForLoop(EnhancedForLoopTree tree, Void none) {
            return refuse("rule 12: loops go by index", tree);
        }
    }
}

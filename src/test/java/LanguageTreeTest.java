import com.sun.source.tree.BinaryTree;
import com.sun.source.tree.ClassTree;
import com.sun.source.tree.CompilationUnitTree;
import com.sun.source.tree.DoWhileLoopTree;
import com.sun.source.tree.ForLoopTree;
import com.sun.source.tree.LiteralTree;
import com.sun.source.tree.MemberSelectTree;
import com.sun.source.tree.MethodInvocationTree;
import com.sun.source.tree.MethodTree;
import com.sun.source.tree.NewArrayTree;
import com.sun.source.tree.NewClassTree;
import com.sun.source.tree.Tree;
import com.sun.source.tree.TypeCastTree;
import com.sun.source.tree.VariableTree;
import com.sun.source.tree.WhileLoopTree;
import com.sun.source.util.JavacTask;
import com.sun.source.util.TreePathScanner;
import com.sun.source.util.Trees;
import java.io.IOException;
import java.lang.reflect.Field;
import java.lang.reflect.Modifier;
import java.nio.file.Path;
import java.util.ArrayList;
import java.util.Collections;
import java.util.IdentityHashMap;
import java.util.List;
import java.util.Map;
import java.util.Set;
import java.util.TreeMap;
import java.util.TreeSet;
import javax.lang.model.element.Element;
import javax.lang.model.element.ElementKind;
import javax.lang.model.type.TypeKind;
import javax.lang.model.type.TypeMirror;
import javax.tools.JavaCompiler;
import javax.tools.StandardJavaFileManager;
import javax.tools.ToolProvider;

/**
 * Of LANGUAGE.md what javac's own tree of the program shows, each name taken for what it means: the library that is
 * called, the types, how deep the calls go, what is made and where. It is run from the project's root.
 */
public final class LanguageTreeTest {
    private static final Path PROGRAM = Path.of("src/main/java/StormRunoff.java");
    private static final Due due = new Due("LanguageTreeTest");
    /** Rule 4, as far as the program needs it. */
    private static final Set<String> LIBRARY = Set.of("java.lang.Math.min", "java.lang.Math.max",
            "java.lang.System.arraycopy", "java.util.Arrays.fill", "java.lang.Object.Object");
    private static final Set<TypeKind> TYPES = Set.of(TypeKind.INT, TypeKind.LONG, TypeKind.BOOLEAN, TypeKind.CHAR);
    private static final Set<TypeKind> CASTS = Set.of(TypeKind.BYTE, TypeKind.SHORT, TypeKind.INT);
    private static final Set<Tree.Kind> UNWANTED = Set.of(Tree.Kind.THROW, Tree.Kind.TRY, Tree.Kind.SYNCHRONIZED,
            Tree.Kind.ASSERT, Tree.Kind.LAMBDA_EXPRESSION, Tree.Kind.MEMBER_REFERENCE, Tree.Kind.INSTANCE_OF,
            Tree.Kind.STRING_LITERAL, Tree.Kind.DOUBLE_LITERAL, Tree.Kind.FLOAT_LITERAL, Tree.Kind.ENHANCED_FOR_LOOP);
    private static final int MOST_DEEP = 8;
    private static final int MOST_OBJECTS = 100, MOST_ELEMENTS = 1500;

    public static void main(String[] args) throws IOException, IllegalAccessException {
        JavaCompiler compiler = ToolProvider.getSystemJavaCompiler();
        try (StandardJavaFileManager files = compiler.getStandardFileManager(null, null, null)) {
            JavacTask task = (JavacTask) compiler.getTask(null, files, null, List.of("-proc:none"), null,
                    files.getJavaFileObjects(PROGRAM));
            CompilationUnitTree unit = task.parse().iterator().next();
            task.analyze();
            Reader reader = new Reader(Trees.instance(task));
            reader.scan(unit, null);
            due.holds("there are the document's methods and more", reader.calls.size() > 35);
            due.holds("there is one file of classes", unit.getTypeDecls().size() == 1);
            for (String method : reader.calls.keySet()) {
                int deep = deepest(method, reader.calls, new ArrayList<>());
                due.holds(method + " goes eight deep at most, and never to itself: " + deep, deep <= MOST_DEEP);
            }
        }
        room();
        due.end();
    }

    /** How many calls stand open at once, this one too; far too many, if one of them calls itself. */
    private static int deepest(String method, Map<String, Set<String>> calls, List<String> open) {
        if (open.contains(method)) {
            return 1000;
        }
        open.add(method);
        int deep = 0;
        for (String called : calls.getOrDefault(method, Set.of())) {
            deep = Math.max(deep, deepest(called, calls, open));
        }
        open.remove(open.size() - 1);
        return 1 + deep;
    }

    /** An object takes little of the room that a run has; its calls make nothing, as the tree shows. */
    private static void room() throws IllegalAccessException {
        Set<Object> met = Collections.newSetFromMap(new IdentityHashMap<>());
        long elements = elementsOf(new StormRunoff(), met);
        due.holds("an object is of " + MOST_OBJECTS + " objects at most: " + met.size(), met.size() <= MOST_OBJECTS);
        due.holds("it has " + MOST_ELEMENTS + " elements at most: " + elements, elements <= MOST_ELEMENTS);
    }

    private static long elementsOf(Object o, Set<Object> met) throws IllegalAccessException {
        if (o == null || !met.add(o)) {
            return 0;
        }
        if (o instanceof Object[] row) {
            long elements = row.length;
            for (Object one : row) {
                elements += elementsOf(one, met);
            }
            return elements;
        }
        if (o.getClass().isArray()) {
            return java.lang.reflect.Array.getLength(o);
        }
        long elements = 0;
        for (Field f : o.getClass().getDeclaredFields()) {
            if (!Modifier.isStatic(f.getModifiers())) {
                elements++;
                f.setAccessible(true);
                elements += f.getType().isPrimitive() ? 0 : elementsOf(f.get(o), met);
            }
        }
        return elements;
    }

    /** Looks at each part of the program, and keeps which method calls which. */
    private static final class Reader extends TreePathScanner<Void, Void> {
        final Map<String, Set<String>> calls = new TreeMap<>();
        private final Trees trees;
        private String method = "";
        private boolean inMethod = false;

        Reader(Trees trees) {
            this.trees = trees;
        }

        @Override
        public Void scan(Tree tree, Void nothing) {
            if (tree != null) {
                due.holds("there is no " + tree.getKind() + " in " + method, !UNWANTED.contains(tree.getKind()));
            }
            return super.scan(tree, nothing);
        }

        @Override
        public Void visitClass(ClassTree tree, Void nothing) {
            due.holds(tree.getSimpleName() + " is a class with a name", tree.getKind() == Tree.Kind.CLASS
                    && !tree.getSimpleName().isEmpty());
            due.holds(tree.getSimpleName() + " extends and implements nothing",
                    tree.getExtendsClause() == null && tree.getImplementsClause().isEmpty());
            return super.visitClass(tree, nothing);
        }

        @Override
        public Void visitMethod(MethodTree tree, Void nothing) {
            Element element = element();
            method = nameOf(element);
            // Only what a constructor makes is made once an object.
            inMethod = element.getKind() == ElementKind.METHOD;
            due.holds(method + " stands there once, so that it is known by its name", calls.put(method, new TreeSet<>()) == null);
            super.visitMethod(tree, nothing);
            if (!inMethod) {
                due.holds(method + " calls no method: " + calls.get(method), calls.get(method).isEmpty());
            }
            method = "";
            inMethod = false;
            return null;
        }

        @Override
        public Void visitMethodInvocation(MethodInvocationTree tree, Void nothing) {
            Element called = element();
            String name = nameOf(called);
            if (isOwn(called)) {
                due.holds(name + " is called in a method", !method.isEmpty());
            } else {
                due.holds(name + " is of the library that LANGUAGE.md lists", LIBRARY.contains(name));
            }
            if (calls.containsKey(method) && !name.equals("java.lang.Object.Object")) {
                calls.get(method).add(name);
            }
            return super.visitMethodInvocation(tree, nothing);
        }

        @Override
        public Void visitMemberSelect(MemberSelectTree tree, Void nothing) {
            Element element = element();
            if (element.getKind() == ElementKind.FIELD && !isOwn(element) && !tree.getIdentifier().contentEquals("length")) {
                due.holds(tree + " is Long.MIN_VALUE, which the document asks for", tree.toString().equals("Long.MIN_VALUE"));
            }
            return super.visitMemberSelect(tree, nothing);
        }

        @Override
        public Void visitVariable(VariableTree tree, Void nothing) {
            TypeMirror type = trees.getTypeMirror(getCurrentPath());
            due.holds(tree.getName() + " in " + method + " is of a type that LANGUAGE.md lists: " + type, isOurs(type));
            return super.visitVariable(tree, nothing);
        }

        @Override
        public Void visitTypeCast(TypeCastTree tree, Void nothing) {
            due.holds(tree + " is a cast of numbers",
                    CASTS.contains(trees.getTypeMirror(getCurrentPath()).getKind()));
            return super.visitTypeCast(tree, nothing);
        }

        @Override
        public Void visitNewClass(NewClassTree tree, Void nothing) {
            due.holds(tree + " is made where an object begins", !inMethod && tree.getClassBody() == null);
            return super.visitNewClass(tree, nothing);
        }

        @Override
        public Void visitNewArray(NewArrayTree tree, Void nothing) {
            due.holds(tree + " is made where an object begins", !inMethod);
            due.holds(tree + " is of one dimension", tree.getDimensions().size() <= 1);
            return super.visitNewArray(tree, nothing);
        }

        @Override
        public Void visitBinary(BinaryTree tree, Void nothing) {
            TypeMirror type = trees.getTypeMirror(getCurrentPath());
            due.holds(tree + " is of numbers or booleans: " + type, TYPES.contains(type.getKind()));
            if (tree.getKind() == Tree.Kind.DIVIDE || tree.getKind() == Tree.Kind.REMAINDER) {
                due.holds(tree + " is not by 0", !(tree.getRightOperand() instanceof LiteralTree literal)
                        || !Integer.valueOf(0).equals(literal.getValue()));
            }
            return super.visitBinary(tree, nothing);
        }

        @Override
        public Void visitForLoop(ForLoopTree tree, Void nothing) {
            due.holds("a loop of " + method + " counts against a bound", hasBound(tree.getCondition())
                    && tree.getInitializer().size() == 1 && tree.getUpdate().size() == 1);
            return super.visitForLoop(tree, nothing);
        }

        @Override
        public Void visitWhileLoop(WhileLoopTree tree, Void nothing) {
            due.holds("a loop of " + method + " has a bound", hasBound(tree.getCondition()));
            return super.visitWhileLoop(tree, nothing);
        }

        @Override
        public Void visitDoWhileLoop(DoWhileLoopTree tree, Void nothing) {
            due.holds("a loop of " + method + " has a bound", hasBound(tree.getCondition()));
            return super.visitDoWhileLoop(tree, nothing);
        }

        private static boolean hasBound(Tree condition) {
            return condition != null && condition.toString().matches(".*(<|>|<=|>=) .*");
        }

        private Element element() {
            return trees.getElement(getCurrentPath());
        }

        private static boolean isOwn(Element element) {
            return element.getEnclosingElement().toString().startsWith("StormRunoff");
        }

        private static String nameOf(Element element) {
            String name = element.getSimpleName().toString();
            String owner = element.getEnclosingElement().toString();
            String last = owner.substring(owner.lastIndexOf('.') + 1);
            return owner + "." + (name.equals("<init>") ? last : name);
        }

        private static boolean isOurs(TypeMirror type) {
            String name = type.toString();
            return TYPES.contains(type.getKind()) || name.matches("(int|long)\\[\\]")
                    || name.matches("StormRunoff\\.\\w+(\\[\\])?");
        }
    }
}

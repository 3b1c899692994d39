import com.sun.source.tree.BinaryTree;
import com.sun.source.tree.ClassTree;
import com.sun.source.tree.CompilationUnitTree;
import com.sun.source.tree.LineMap;
import com.sun.source.tree.MethodInvocationTree;
import com.sun.source.tree.MethodTree;
import com.sun.source.tree.NewClassTree;
import com.sun.source.tree.Tree;
import com.sun.source.tree.VariableTree;
import com.sun.source.util.JavacTask;
import com.sun.source.util.SourcePositions;
import com.sun.source.util.TreePath;
import com.sun.source.util.TreePathScanner;
import com.sun.source.util.Trees;
import java.nio.file.Files;
import java.nio.file.Path;
import java.util.ArrayList;
import java.util.HashMap;
import java.util.HashSet;
import java.util.List;
import java.util.Map;
import java.util.Set;
import javax.lang.model.element.Element;
import javax.lang.model.element.ElementKind;
import javax.lang.model.element.ExecutableElement;
import javax.lang.model.element.Modifier;
import javax.lang.model.element.TypeElement;
import javax.lang.model.element.VariableElement;
import javax.lang.model.type.TypeMirror;
import javax.lang.model.util.ElementFilter;
import javax.lang.model.util.Elements;
import javax.tools.JavaCompiler;
import javax.tools.StandardJavaFileManager;
import javax.tools.ToolProvider;

/**
 * The rules of LANGUAGE.md that can be read from the source, by javac's own tree of it: which types and
 * library it uses, how long its methods are, how deep calls go. The depth is counted with the public call
 * as the first, constructors among them, and a method that others override as each of these.
 */
public final class LanguageTest {
    private static final Path SOURCE = Path.of("src/main/java/CarryShifts.java");
    private static final int PARAMETERS = 7, LINES = 60, DEPTH = 8, CLASSES = 12, FIELDS = 20;
    private static final Set<String> LIBRARY = Set.of(
            "String.length", "String.charAt", "String.isEmpty", "String.equals", "String.indexOf", "String.substring",
            "String.toCharArray", "StringBuilder.append", "StringBuilder.charAt", "StringBuilder.setCharAt",
            "StringBuilder.setLength", "StringBuilder.deleteCharAt", "StringBuilder.reverse", "StringBuilder.length",
            "StringBuilder.toString", "System.arraycopy", "Arrays.copyOf", "Arrays.copyOfRange", "Arrays.fill", "Array.clone");
    private static final Set<String> NUMBERED = Set.of("Integer", "Long", "Math");
    private static final Set<String> STATIC_TYPES = Set.of("int", "long", "boolean", "char", "java.lang.String",
            "int[]", "long[]", "char[]", "byte[]");
    private static final Set<String> PLAIN_TYPES = Set.of("int", "long", "short", "byte", "char", "boolean", "double", "float");

    private final Due due = new Due();
    private final Map<ExecutableElement, Set<ExecutableElement>> calls = new HashMap<>();
    private final Set<TypeElement> classes = new HashSet<>();
    private final Map<ExecutableElement, List<String>> deepest = new HashMap<>();
    private final Set<ExecutableElement> open = new HashSet<>();
    private CompilationUnitTree unit;
    private Trees trees;
    private Elements elements;

    public static void main(String[] args) throws Exception {
        LanguageTest t = new LanguageTest();
        t.read();
        t.classesInside();
        t.staticFields();
        t.depth();
        t.due.end();
    }

    private void read() throws Exception {
        JavaCompiler compiler = ToolProvider.getSystemJavaCompiler();
        try (StandardJavaFileManager files = compiler.getStandardFileManager(null, null, null)) {
            JavacTask task = (JavacTask) compiler.getTask(null, files, null, List.of("--release", "17", "-proc:none"), null,
                    files.getJavaFileObjects(SOURCE));
            unit = task.parse().iterator().next();
            task.analyze();
            trees = Trees.instance(task);
            elements = task.getElements();
            new Reader().scan(unit, null);
        }
        due.holds("the source has plain signs alone", Files.readString(SOURCE).matches("[\\n -~]*"));
    }

    private void classesInside() {
        due.holds("classes: " + classes.size(), classes.size() <= CLASSES);
        for (TypeElement c : classes) {
            int fields = 0;
            for (VariableElement f : ElementFilter.fieldsIn(c.getEnclosedElements())) {
                fields += f.getModifiers().contains(Modifier.STATIC) ? 0 : 1;
            }
            due.holds("fields of " + c + ": " + fields, fields <= FIELDS);
            due.holds(c + " is the face or static", c.getSimpleName().contentEquals("CarryShifts")
                    || c.getModifiers().contains(Modifier.STATIC));
        }
    }

    private void staticFields() {
        for (TypeElement c : classes) {
            for (VariableElement f : ElementFilter.fieldsIn(c.getEnclosedElements())) {
                if (f.getModifiers().contains(Modifier.STATIC)) {
                    due.holds(f + " is a constant", f.getModifiers().contains(Modifier.FINAL)
                            && STATIC_TYPES.contains(f.asType().toString()));
                }
            }
        }
    }

    private void depth() {
        for (ExecutableElement e : calls.keySet()) {
            if (e.getModifiers().contains(Modifier.PUBLIC)) {
                List<String> way = deepestFrom(e);
                due.holds("calls go " + way.size() + " deep: " + way, way.size() <= DEPTH);
            }
        }
    }

    private List<String> deepestFrom(ExecutableElement e) {
        List<String> known = deepest.get(e);
        if (known != null) {
            return known;
        }
        due.holds("no recursion: " + e, open.add(e));
        List<String> longest = List.of();
        for (ExecutableElement called : calls.getOrDefault(e, Set.of())) {
            for (ExecutableElement body : bodiesOf(called)) {
                List<String> way = open.contains(body) ? List.of() : deepestFrom(body);
                longest = way.size() > longest.size() ? way : longest;
            }
        }
        open.remove(e);
        List<String> way = new ArrayList<>();
        way.add(e.getEnclosingElement().getSimpleName() + "." + e.getSimpleName());
        way.addAll(longest);
        deepest.put(e, way);
        return way;
    }

    /** The method itself and all that override it. */
    private Set<ExecutableElement> bodiesOf(ExecutableElement called) {
        Set<ExecutableElement> bodies = new HashSet<>();
        for (ExecutableElement e : calls.keySet()) {
            TypeElement c = (TypeElement) e.getEnclosingElement();
            if (e.equals(called) || e.getKind() == ElementKind.METHOD && elements.overrides(e, called, c)) {
                bodies.add(e);
            }
        }
        return bodies;
    }

    private final class Reader extends TreePathScanner<Void, Void> {
        private ExecutableElement inside = null;

        private long lineOf(Tree tree, boolean first) {
            SourcePositions places = trees.getSourcePositions();
            LineMap lines = unit.getLineMap();
            return lines.getLineNumber(first ? places.getStartPosition(unit, tree) : places.getEndPosition(unit, tree));
        }

        public Void visitClass(ClassTree tree, Void v) {
            TypeElement c = (TypeElement) trees.getElement(getCurrentPath());
            classes.add(c);
            due.holds(c + " stands in a class or alone", c.getNestingKind().toString().matches("TOP_LEVEL|MEMBER"));
            for (Tree member : tree.getMembers()) {
                due.holds("no initialiser block in " + c, member.getKind() != Tree.Kind.BLOCK);
            }
            return super.visitClass(tree, v);
        }

        public Void visitMethod(MethodTree tree, Void v) {
            inside = (ExecutableElement) trees.getElement(getCurrentPath());
            calls.put(inside, new HashSet<>());
            long lines = lineOf(tree, false) - lineOf(tree, true) + 1;
            due.holds(inside + " has lines: " + lines, lines <= LINES);
            due.holds(inside + " has parameters: " + tree.getParameters().size(), tree.getParameters().size() <= PARAMETERS);
            super.visitMethod(tree, v);
            inside = null;
            return null;
        }

        public Void visitMethodInvocation(MethodInvocationTree tree, Void v) {
            called((ExecutableElement) trees.getElement(getCurrentPath()), tree);
            return super.visitMethodInvocation(tree, v);
        }

        public Void visitNewClass(NewClassTree tree, Void v) {
            due.holds("no class without a name", tree.getClassBody() == null);
            called((ExecutableElement) trees.getElement(getCurrentPath()), tree);
            return super.visitNewClass(tree, v);
        }

        private void called(ExecutableElement e, Tree tree) {
            TypeElement owner = (TypeElement) e.getEnclosingElement();
            if (owner.getQualifiedName().toString().startsWith("CarryShifts")) {
                if (inside != null) {
                    calls.get(inside).add(e);
                    due.holds("a constructor calls nothing that others override: " + e, !overridable(e));
                }
                return;
            }
            String name = owner.getSimpleName() + "." + e.getSimpleName();
            boolean numbered = NUMBERED.contains(owner.getSimpleName().toString()) && isOverNumbers(e)
                    && !e.getSimpleName().toString().endsWith("Exact");
            boolean objectsOwn = e.getKind() == ElementKind.CONSTRUCTOR && owner.getSimpleName().contentEquals("Object");
            due.holds("line " + lineOf(tree, true) + ": " + name + " is in the library that is listed",
                    numbered || objectsOwn || LIBRARY.contains(name));
        }

        private boolean overridable(ExecutableElement e) {
            return inside.getKind() == ElementKind.CONSTRUCTOR && e.getKind() == ElementKind.METHOD
                    && !e.getModifiers().contains(Modifier.FINAL) && !e.getModifiers().contains(Modifier.PRIVATE)
                    && !e.getModifiers().contains(Modifier.STATIC)
                    && !e.getEnclosingElement().getModifiers().contains(Modifier.FINAL);
        }

        private boolean isOverNumbers(ExecutableElement e) {
            boolean all = e.getModifiers().contains(Modifier.STATIC) && isIntOrLong(e.getReturnType());
            for (VariableElement p : e.getParameters()) {
                all &= isIntOrLong(p.asType());
            }
            return all;
        }

        private boolean isIntOrLong(TypeMirror type) {
            return type.toString().equals("int") || type.toString().equals("long");
        }

        public Void visitVariable(VariableTree tree, Void v) {
            Element e = trees.getElement(getCurrentPath());
            String type = e.asType().toString();
            String single = type.endsWith("[]") ? type.substring(0, type.length() - 2) : type;
            due.holds("line " + lineOf(tree, true) + ": " + type + " is a type that is listed",
                    PLAIN_TYPES.contains(single) || single.startsWith("CarryShifts")
                    || type.equals("java.lang.String") || type.equals("java.lang.StringBuilder"));
            return super.visitVariable(tree, v);
        }

        public Void visitBinary(BinaryTree tree, Void v) {
            if (tree.getKind() == Tree.Kind.EQUAL_TO || tree.getKind() == Tree.Kind.NOT_EQUAL_TO
                    || tree.getKind() == Tree.Kind.PLUS) {
                due.holds("line " + lineOf(tree, true) + ": no texts by == or +", !isText(tree.getLeftOperand())
                        && !isText(tree.getRightOperand()));
            }
            return super.visitBinary(tree, v);
        }

        private boolean isText(Tree operand) {
            TypeMirror type = trees.getTypeMirror(new TreePath(getCurrentPath(), operand));
            return type != null && type.toString().equals("java.lang.String");
        }
    }
}

import com.sun.source.tree.*;
import com.sun.source.util.JavacTask;
import com.sun.source.util.TreePath;
import com.sun.source.util.TreePathScanner;
import com.sun.source.util.Trees;
import java.io.File;
import java.nio.file.Files;
import java.nio.file.Path;
import java.util.HashMap;
import java.util.HashSet;
import java.util.List;
import java.util.Map;
import java.util.Set;
import java.util.TreeSet;
import javax.lang.model.element.Element;
import javax.lang.model.element.ElementKind;
import javax.lang.model.element.ExecutableElement;
import javax.lang.model.element.Modifier;
import javax.lang.model.element.TypeElement;
import javax.tools.JavaCompiler;
import javax.tools.ToolProvider;

/** The rules of LANGUAGE.md that can be read off the source; the number in a fault is the rule's. */
final class LanguageTests extends TreePathScanner<Void, Void> {
    private static final int MOST_LINES = 60, MOST_PARAMETERS = 7, MOST_CLASSES = 12, MOST_FIELDS = 20,
        MOST_DEPTH = 8;
    /** What the class uses of the library; LANGUAGE.md's rule 4 lists all that may be added. */
    private static final Set<String> LIBRARY = Set.of("java.lang.Math.max", "java.lang.Math.min",
        "java.lang.Integer.bitCount", "java.lang.System.arraycopy", "java.lang.Object.<init>");
    private static final Set<Tree.Kind> BANNED = Set.of(Tree.Kind.THROW, Tree.Kind.TRY, Tree.Kind.CATCH,
        Tree.Kind.SYNCHRONIZED, Tree.Kind.ASSERT, Tree.Kind.LAMBDA_EXPRESSION, Tree.Kind.MEMBER_REFERENCE,
        Tree.Kind.IMPORT, Tree.Kind.PACKAGE, Tree.Kind.WHILE_LOOP, Tree.Kind.DO_WHILE_LOOP, Tree.Kind.SWITCH_EXPRESSION,
        Tree.Kind.DOUBLE_LITERAL, Tree.Kind.FLOAT_LITERAL, Tree.Kind.STRING_LITERAL, Tree.Kind.TYPE_CAST);
    private static final Set<String> OWN_TYPES = Set.of("Row", "Hour", "Day", "Course");
    private static final Set<String> TYPES = Set.of("int", "long", "boolean", "int[]");

    private final Trees trees;
    private final LineMap lines;
    private final CompilationUnitTree unit;
    private final Set<String> face = new TreeSet<>();
    /** Which methods of the file each of its methods calls. */
    private final Map<Element, Set<Element>> calls = new HashMap<>();
    private int classes = 0;

    private LanguageTests(JavacTask task, CompilationUnitTree unit) {
        this.trees = Trees.instance(task);
        this.unit = unit;
        this.lines = unit.getLineMap();
    }

    static void run(String path) {
        Check.test("the rules of LANGUAGE.md", () -> {
            JavaCompiler compiler = ToolProvider.getSystemJavaCompiler();
            JavacTask task = (JavacTask) compiler.getTask(null, null, null, List.of("-proc:none"), null,
                compiler.getStandardFileManager(null, null, null).getJavaFileObjects(new File(path)));
            for (CompilationUnitTree unit : task.parse()) {
                task.analyze();
                LanguageTests scanner = new LanguageTests(task, unit);
                scanner.scan(unit, null);
                Check.holds("11: at most " + MOST_CLASSES + " classes", scanner.classes <= MOST_CLASSES);
                Check.due("1: types of the file", unit.getTypeDecls().size(), 1);
                for (Element method : scanner.calls.keySet()) {
                    int depth = scanner.depth(method, 1);
                    Check.holds("8, 11: calls from " + method + " go " + depth + " deep", depth <= MOST_DEPTH);
                }
            }
            for (char sign : Files.readString(Path.of(path)).toCharArray()) {
                Check.holds("4: plain signs alone, " + (int) sign, sign == '\n' || sign >= 32 && sign < 127);
            }
        });
    }

    private void rule(Tree tree, String rule, boolean so) {
        Check.holds("line " + line(tree) + ": " + rule, so);
    }

    private long line(Tree tree) {
        return lines.getLineNumber(trees.getSourcePositions().getStartPosition(unit, tree));
    }

    @Override
    public Void scan(Tree tree, Void none) {
        if (tree != null) {
            rule(tree, "6: no " + tree.getKind(), !BANNED.contains(tree.getKind()));
        }
        return super.scan(tree, none);
    }

    @Override
    public Void visitClass(ClassTree tree, Void none) {
        classes++;
        boolean outer = classes == 1;
        Set<Modifier> flags = tree.getModifiers().getFlags();
        rule(tree, "2: static inside", outer || flags.contains(Modifier.STATIC));
        rule(tree, "2: inside the one class", outer || getCurrentPath().getParentPath().getLeaf() instanceof ClassTree);
        int fields = 0;
        for (Tree member : tree.getMembers()) {
            rule(member, "5: no initialiser block", !(member instanceof BlockTree));
            if (member instanceof VariableTree field) {
                Set<Modifier> of = field.getModifiers().getFlags();
                fields += of.contains(Modifier.STATIC) ? 0 : 1;
                rule(field, "5: static is final", !of.contains(Modifier.STATIC) || of.contains(Modifier.FINAL));
            }
            if (outer && member instanceof MethodTree method
                && method.getModifiers().getFlags().contains(Modifier.PUBLIC)) {
                face.add(method.getName().toString());
            }
        }
        rule(tree, "11: at most " + MOST_FIELDS + " fields", fields <= MOST_FIELDS);
        return super.visitClass(tree, none);
    }

    @Override
    public Void visitMethod(MethodTree tree, Void none) {
        long last = lines.getLineNumber(trees.getSourcePositions().getEndPosition(unit, tree));
        rule(tree, "11: at most " + MOST_LINES + " lines", last - line(tree) < MOST_LINES);
        rule(tree, "11: at most " + MOST_PARAMETERS + " parameters", tree.getParameters().size() <= MOST_PARAMETERS);
        boolean isFace = classes == 1 && tree.getModifiers().getFlags().contains(Modifier.PUBLIC);
        String name = tree.getName().toString();
        rule(tree, "1: no other method of a public one's name",
            isFace || name.equals("<init>") || !face.contains(name));
        rule(tree, "1: public or private", classes > 1 || isFace
            || tree.getModifiers().getFlags().contains(Modifier.PRIVATE));
        return super.visitMethod(tree, none);
    }

    @Override
    public Void visitVariable(VariableTree tree, Void none) {
        String type = tree.getType().toString();
        String own = type.endsWith("[]") ? type.substring(0, type.length() - 2) : type;
        rule(tree, "3: the type " + type, TYPES.contains(type) || OWN_TYPES.contains(own));
        return super.visitVariable(tree, none);
    }

    /** Static arrays are read alone: no element is set, and none is handed on to be filled but as a source. */
    @Override
    public Void visitAssignment(AssignmentTree tree, Void none) {
        unchanged(tree.getVariable());
        return super.visitAssignment(tree, none);
    }

    @Override
    public Void visitCompoundAssignment(CompoundAssignmentTree tree, Void none) {
        unchanged(tree.getVariable());
        return super.visitCompoundAssignment(tree, none);
    }

    @Override
    public Void visitUnary(UnaryTree tree, Void none) {
        if (tree.getKind().toString().endsWith("CREMENT")) {
            unchanged(tree.getExpression());
        }
        return super.visitUnary(tree, none);
    }

    @Override
    public Void visitMethodInvocation(MethodInvocationTree tree, Void none) {
        boolean copies = tree.getMethodSelect().toString().equals("System.arraycopy");
        for (int k = 0; k < tree.getArguments().size(); k++) {
            String handed = tree.getArguments().get(k).toString();
            rule(tree, "5: " + handed + " is handed on", !handed.endsWith("_AT_FIRST") || copies && k == 0);
        }
        return super.visitMethodInvocation(tree, none);
    }

    @Override
    public Void visitNewClass(NewClassTree tree, Void none) {
        noteCall(trees.getElement(getCurrentPath()));
        return super.visitNewClass(tree, none);
    }

    private void unchanged(ExpressionTree changed) {
        boolean isOfConstant = changed instanceof ArrayAccessTree of && of.getExpression().toString().matches("[A-Z_]+");
        rule(changed, "5: an element of a constant is set", !isOfConstant);
    }

    /** How deep the calls go from a method on; of one that calls itself, too deep. */
    private int depth(Element method, int above) {
        int deepest = 1;
        for (Element called : above > MOST_DEPTH ? Set.<Element>of() : calls.getOrDefault(method, Set.of())) {
            deepest = Math.max(deepest, 1 + depth(called, above + 1));
        }
        return deepest;
    }

    private void noteCall(Element called) {
        for (TreePath path = getCurrentPath(); path != null; path = path.getParentPath()) {
            if (path.getLeaf() instanceof MethodTree) {
                calls.computeIfAbsent(trees.getElement(path), key -> new HashSet<>()).add(called);
                return;
            }
        }
    }

    @Override
    public Void visitForLoop(ForLoopTree tree, Void none) {
        rule(tree, "9: a counter and its bound", tree.getCondition() != null && !tree.getUpdate().isEmpty());
        return super.visitForLoop(tree, none);
    }

    @Override
    public Void visitIdentifier(IdentifierTree tree, Void none) {
        ofLibrary(tree, trees.getElement(getCurrentPath()));
        return super.visitIdentifier(tree, none);
    }

    @Override
    public Void visitMemberSelect(MemberSelectTree tree, Void none) {
        ofLibrary(tree, trees.getElement(getCurrentPath()));
        return super.visitMemberSelect(tree, none);
    }

    private void ofLibrary(Tree tree, Element element) {
        if (element instanceof ExecutableElement method) {
            String owner = ((TypeElement) method.getEnclosingElement()).getQualifiedName().toString();
            boolean own = owner.startsWith("SpringFarms");
            rule(tree, "4: of the library " + owner + "." + method.getSimpleName(),
                own || LIBRARY.contains(owner + "." + method.getSimpleName()));
            if (own) {
                noteCall(method);
            }
        }
        if (element != null && element.getKind() == ElementKind.FIELD) {
            Element owner = element.getEnclosingElement();
            boolean own = owner.toString().startsWith("SpringFarms") || element.toString().equals("length");
            rule(tree, "4: a field of the library, " + element, own);
        }
    }

    @Override
    public Void visitNewArray(NewArrayTree tree, Void none) {
        rule(tree, "12: arrays are made in fields alone", isInField());
        return super.visitNewArray(tree, none);
    }

    private boolean isInField() {
        for (TreePath path = getCurrentPath(); path != null; path = path.getParentPath()) {
            if (path.getLeaf() instanceof MethodTree) {
                return false;
            }
        }
        return true;
    }
}

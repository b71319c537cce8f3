import com.sun.source.tree.AssertTree;
import com.sun.source.tree.BlockTree;
import com.sun.source.tree.ClassTree;
import com.sun.source.tree.CompilationUnitTree;
import com.sun.source.tree.IdentifierTree;
import com.sun.source.tree.LambdaExpressionTree;
import com.sun.source.tree.MemberReferenceTree;
import com.sun.source.tree.MemberSelectTree;
import com.sun.source.tree.MethodInvocationTree;
import com.sun.source.tree.MethodTree;
import com.sun.source.tree.NewClassTree;
import com.sun.source.tree.SynchronizedTree;
import com.sun.source.tree.ThrowTree;
import com.sun.source.tree.TryTree;
import com.sun.source.tree.VariableTree;
import com.sun.source.util.JavacTask;
import com.sun.source.util.TreePathScanner;
import com.sun.source.util.Trees;
import java.nio.file.Path;
import java.util.ArrayList;
import java.util.List;
import java.util.Map;
import java.util.Set;
import java.util.TreeMap;
import java.util.TreeSet;
import javax.lang.model.element.Element;
import javax.lang.model.element.ElementKind;
import javax.lang.model.element.ExecutableElement;
import javax.lang.model.element.Modifier;
import javax.tools.JavaCompiler;
import javax.tools.StandardJavaFileManager;
import javax.tools.ToolProvider;

/** The rules of LANGUAGE.md that can be counted: what is used, how long, how many, how deep. */
public final class RulesTest {
    private static final Set<String> LIBRARY = Set.of("java.lang.Math.max", "java.lang.Math.min", "java.lang.Math.abs",
        "java.lang.Math.floorDiv", "java.lang.Math.floorMod", "java.lang.System.arraycopy",
        "java.lang.String.length", "java.lang.String.charAt", "java.lang.String.indexOf", "java.lang.Object.<init>");
    private static final Map<String, Set<String>> CALLS = new TreeMap<>();
    private static final Map<String, Integer> DEPTHS = new TreeMap<>();
    private static final Set<String> FACE = new TreeSet<>();
    private static int wrong;

    private static void tell(String what) {
        wrong++;
        System.out.println(what);
    }

    private static String nameOf(Element e) {
        return e.getEnclosingElement() + "." + e.getSimpleName();
    }

    private static final class Looker extends TreePathScanner<Void, Void> {
        private final Trees trees;
        private final CompilationUnitTree unit;
        private String method;
        private int classes;

        Looker(Trees trees, CompilationUnitTree unit) {
            this.trees = trees;
            this.unit = unit;
        }

        private void refuse(Object tree) {
            tell("not in the language: " + tree);
        }

        @Override
        public Void visitClass(ClassTree c, Void v) {
            classes++;
            if (classes > 12) {
                tell("more than twelve classes");
            }
            boolean outer = c.getSimpleName().contentEquals("TurningHall");
            Set<Modifier> flags = c.getModifiers().getFlags();
            if (!outer && !flags.contains(Modifier.STATIC)) {
                tell("not static: " + c.getSimpleName());
            }
            int fields = 0;
            for (var member : c.getMembers()) {
                if (member instanceof VariableTree field) {
                    Set<Modifier> f = field.getModifiers().getFlags();
                    boolean constant = f.contains(Modifier.STATIC);
                    fields += constant ? 0 : 1;
                    if (constant && !f.contains(Modifier.FINAL)) {
                        tell("static and not final: " + field.getName());
                    }
                    if (constant && !Set.of("int", "long", "String", "char", "boolean").contains("" + field.getType())) {
                        tell("no such constants: " + field.getName());
                    }
                }
                if (member instanceof BlockTree) {
                    tell("a block in " + c.getSimpleName());
                }
            }
            if (fields > 20) {
                tell(fields + " fields in " + c.getSimpleName());
            }
            return super.visitClass(c, v);
        }

        @Override
        public Void visitMethod(MethodTree m, Void v) {
            ExecutableElement e = (ExecutableElement) trees.getElement(getCurrentPath());
            method = nameOf(e);
            CALLS.putIfAbsent(method, new TreeSet<>());
            boolean isFace = m.getModifiers().getFlags().contains(Modifier.PUBLIC);
            if (isFace) {
                FACE.add(method);
            }
            long from = unit.getLineMap().getLineNumber(trees.getSourcePositions().getStartPosition(unit, m));
            long to = unit.getLineMap().getLineNumber(trees.getSourcePositions().getEndPosition(unit, m));
            if (to - from + 1 > 64) {
                tell(method + " has " + (to - from + 1) + " lines");
            }
            if (m.getParameters().size() > 7) {
                tell(method + " has too many parameters");
            }
            return super.visitMethod(m, v);
        }

        private void called(Element e) {
            if (!(e instanceof ExecutableElement)) {
                return;
            }
            String name = nameOf(e);
            if (name.startsWith("java.")) {
                if (!LIBRARY.contains(name)) {
                    tell("not in the library left: " + name);
                }
            } else if (method != null) {
                CALLS.get(method).add(name);
            }
        }

        @Override
        public Void visitMethodInvocation(MethodInvocationTree call, Void v) {
            called(trees.getElement(getCurrentPath()));
            return super.visitMethodInvocation(call, v);
        }

        @Override
        public Void visitNewClass(NewClassTree made, Void v) {
            called(trees.getElement(getCurrentPath()));
            return super.visitNewClass(made, v);
        }

        @Override
        public Void visitIdentifier(IdentifierTree name, Void v) {
            Element e = trees.getElement(getCurrentPath());
            if (e != null && e.getKind() == ElementKind.CLASS && e.toString().startsWith("java.")
                && !Set.of("java.lang.Math", "java.lang.System", "java.lang.String").contains(e.toString())) {
                tell("not in the library left: " + e);
            }
            return super.visitIdentifier(name, v);
        }

        @Override
        public Void visitMemberSelect(MemberSelectTree select, Void v) {
            if (("" + select).startsWith("java.")) {
                tell("not in the library left: " + select);
            }
            return super.visitMemberSelect(select, v);
        }

        @Override
        public Void visitVariable(VariableTree variable, Void v) {
            String type = "" + variable.getType();
            if (type.startsWith("double") || type.startsWith("float")) {
                tell("a real: " + variable);
            }
            return super.visitVariable(variable, v);
        }

        @Override
        public Void visitThrow(ThrowTree t, Void v) {
            refuse(t);
            return null;
        }

        @Override
        public Void visitTry(TryTree t, Void v) {
            refuse(t);
            return null;
        }

        @Override
        public Void visitAssert(AssertTree t, Void v) {
            refuse(t);
            return null;
        }

        @Override
        public Void visitSynchronized(SynchronizedTree t, Void v) {
            refuse(t);
            return null;
        }

        @Override
        public Void visitLambdaExpression(LambdaExpressionTree t, Void v) {
            refuse(t);
            return null;
        }

        @Override
        public Void visitMemberReference(MemberReferenceTree t, Void v) {
            refuse(t);
            return null;
        }
    }

    /** How many calls stand open at once, this one too; a method that calls itself in the end is refused. */
    private static int depth(String method, List<String> open) {
        if (open.contains(method)) {
            tell("recursion: " + open + " " + method);
            return 0;
        }
        Integer known = DEPTHS.get(method);
        if (known != null) {
            return known;
        }
        List<String> deeper = new ArrayList<>(open);
        deeper.add(method);
        int most = 0;
        for (String called : CALLS.getOrDefault(method, Set.of())) {
            most = Math.max(most, depth(called, deeper));
        }
        DEPTHS.put(method, most + 1);
        return most + 1;
    }

    private static void checkDepths() {
        int most = 0;
        for (String method : FACE) {
            int calls = depth(method, List.of());
            most = Math.max(most, calls);
            if (calls > 8) {
                tell(method + " goes " + calls + " calls deep");
            }
        }
        System.out.println("the deepest goes " + most + " calls deep");
        Set<String> faceNames = new TreeSet<>();
        for (String method : FACE) {
            faceNames.add(method.substring(method.lastIndexOf('.') + 1));
        }
        for (String method : CALLS.keySet()) {
            String name = method.substring(method.lastIndexOf('.') + 1);
            if (!FACE.contains(method) && faceNames.contains(name) && !name.equals("<init>")) {
                tell(method + " bears the name of a public one");
            }
        }
        if (FACE.size() != 26) {
            tell("the face has " + FACE.size() + " methods and constructors");
        }
    }

    public static void main(String[] args) throws Exception {
        JavaCompiler compiler = ToolProvider.getSystemJavaCompiler();
        StandardJavaFileManager files = compiler.getStandardFileManager(null, null, null);
        var sources = files.getJavaFileObjects(Path.of("src/main/java/TurningHall.java"));
        JavacTask task = (JavacTask) compiler.getTask(null, files, null, List.of("-proc:none"), null, sources);
        Iterable<? extends CompilationUnitTree> units = task.parse();
        task.analyze();
        for (CompilationUnitTree unit : units) {
            new Looker(Trees.instance(task), unit).scan(unit, null);
        }
        checkDepths();
        System.out.println("RulesTest: " + CALLS.size() + " methods, " + wrong + " rules broken");
        if (wrong != 0) {
            System.exit(1);
        }
    }
}

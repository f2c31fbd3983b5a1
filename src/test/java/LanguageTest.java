import com.sun.source.tree.AssertTree;
import com.sun.source.tree.ClassTree;
import com.sun.source.tree.CompilationUnitTree;
import com.sun.source.tree.ImportTree;
import com.sun.source.tree.LambdaExpressionTree;
import com.sun.source.tree.LiteralTree;
import com.sun.source.tree.MemberReferenceTree;
import com.sun.source.tree.MethodTree;
import com.sun.source.tree.SynchronizedTree;
import com.sun.source.tree.ThrowTree;
import com.sun.source.tree.Tree;
import com.sun.source.tree.TryTree;
import com.sun.source.tree.VariableTree;
import com.sun.source.util.JavacTask;
import com.sun.source.util.SourcePositions;
import com.sun.source.util.TreeScanner;
import com.sun.source.util.Trees;
import java.lang.reflect.Field;
import java.lang.reflect.Method;
import java.lang.reflect.Modifier;
import java.nio.file.Path;
import java.util.List;
import java.util.Set;
import java.util.TreeSet;
import javax.tools.JavaCompiler;
import javax.tools.StandardJavaFileManager;
import javax.tools.ToolProvider;

/** The public face of the document, and the rules of LANGUAGE.md that can be seen in the source. */
public final class LanguageTest {
    private static final Checks is = new Checks();

    private static final String FACE = "NO_SUCH BAD_VALUE BAD_TEXT TOO_MANY NOT_POSSIBLE NONE CURRENT ASKING AWAKE FALLING ASLEEP WAITING RISING"
        + " set(int,int) build(boolean,boolean,int,int) read() link(int,int,boolean) value(int,int) sleep(int) wake(int) pass(int)"
        + " of(int,int) count(int) waiting(int) ifPassed(int,int) allAwake() leastCurrent(int) quiet(int) put(long) wipe() fault()"
        + " undo() save(int) restore(int)";

    public static void main(String[] args) throws Exception {
        face();
        source(Path.of(System.getProperty("program", "src/main/java/SleepingIslands.java")));
        is.end();
    }

    private static void wrong(String what) {
        is.due(what, 1, 0);
    }

    /** Rule 1: these members, and none beside them that is not private. */
    private static void face() {
        Set<String> due = new TreeSet<>(List.of(FACE.split(" ")));
        Set<String> got = new TreeSet<>();
        for (Field field : SleepingIslands.class.getDeclaredFields()) {
            if (!Modifier.isPrivate(field.getModifiers())) {
                got.add(field.getName());
            }
        }
        Set<String> names = new TreeSet<>();
        for (Method method : SleepingIslands.class.getDeclaredMethods()) {
            if (!Modifier.isPrivate(method.getModifiers())) {
                StringBuilder types = new StringBuilder();
                for (Class<?> type : method.getParameterTypes()) {
                    types.append(types.length() == 0 ? "" : ",").append(type.getName());
                }
                got.add(method.getName() + "(" + types + ")");
                names.add(method.getName());
                is.due("whether " + method + " answers int", method.getReturnType() == int.class ? 1 : 0, 1);
            }
        }
        if (!got.equals(due)) {
            wrong("the face " + got);
        }
        for (Method method : SleepingIslands.class.getDeclaredMethods()) {
            if (Modifier.isPrivate(method.getModifiers()) && names.contains(method.getName())) {
                wrong("the private method " + method);
            }
        }
        is.due("whether the class is public and final", SleepingIslands.class.getModifiers(), Modifier.PUBLIC | Modifier.FINAL);
        is.due("constructors", SleepingIslands.class.getDeclaredConstructors().length, 1);
    }

    private static void source(Path path) throws Exception {
        JavaCompiler compiler = ToolProvider.getSystemJavaCompiler();
        try (StandardJavaFileManager files = compiler.getStandardFileManager(null, null, null)) {
            JavacTask task = (JavacTask) compiler.getTask(null, files, null, null, null, files.getJavaFileObjects(path));
            SourcePositions places = Trees.instance(task).getSourcePositions();
            for (CompilationUnitTree unit : task.parse()) {
                new Rules(unit, places).scan(unit, null);
            }
        }
    }

    private static final class Rules extends TreeScanner<Void, Void> {
        private final CompilationUnitTree unit;
        private final SourcePositions places;
        private int classes = 0;
        private int inMethods = 0;

        private Rules(CompilationUnitTree unit, SourcePositions places) {
            this.unit = unit;
            this.places = places;
        }

        private long line(long position) {
            return unit.getLineMap().getLineNumber(position);
        }

        private Void no(String what, Tree tree) {
            wrong(what + " in line " + line(places.getStartPosition(unit, tree)));
            return null;
        }

        @Override public Void visitThrow(ThrowTree t, Void v) {
            return no("rule 6: throw", t);
        }

        @Override public Void visitTry(TryTree t, Void v) {
            return no("rule 6: try", t);
        }

        @Override public Void visitAssert(AssertTree t, Void v) {
            return no("rule 6: assert", t);
        }

        @Override public Void visitSynchronized(SynchronizedTree t, Void v) {
            return no("rule 6: synchronized", t);
        }

        @Override public Void visitLambdaExpression(LambdaExpressionTree t, Void v) {
            return no("rule 2: a lambda", t);
        }

        @Override public Void visitMemberReference(MemberReferenceTree t, Void v) {
            return no("rule 2: a method reference", t);
        }

        @Override public Void visitImport(ImportTree t, Void v) {
            return no("rule 4: an import that the program does without", t);
        }

        /** Nothing in the program needs a text, so none is joined by + either (rule 10). */
        @Override public Void visitLiteral(LiteralTree t, Void v) {
            return t.getValue() instanceof String ? no("rule 10: a text", t) : null;
        }

        @Override public Void visitClass(ClassTree t, Void v) {
            classes++;
            is.due("rule 11: more than twelve classes", classes > 12 ? 1 : 0, 0);
            is.due("rule 2: a class in a method", inMethods, 0);
            if (classes > 1 && t.getKind() == Tree.Kind.CLASS && !t.getModifiers().getFlags().contains(javax.lang.model.element.Modifier.STATIC)) {
                no("rule 2: an inner class that is not static", t);
            }
            int fields = 0;
            for (Tree member : t.getMembers()) {
                if (member.getKind() == Tree.Kind.BLOCK) {
                    no("rule 5: a block of the class", member);
                }
                if (member instanceof VariableTree) {
                    fields += isConstant((VariableTree) member) ? 0 : 1;
                }
            }
            is.due("rule 11: fields of " + t.getSimpleName() + " above twenty", Math.max(0, fields - 20), 0);
            return super.visitClass(t, v);
        }

        private boolean isConstant(VariableTree field) {
            Set<javax.lang.model.element.Modifier> flags = field.getModifiers().getFlags();
            boolean fixed = flags.contains(javax.lang.model.element.Modifier.STATIC);
            if (fixed && !flags.contains(javax.lang.model.element.Modifier.FINAL)) {
                no("rule 5: a static field that is not final", field);
            }
            return fixed;
        }

        @Override public Void visitMethod(MethodTree t, Void v) {
            long lines = line(places.getEndPosition(unit, t)) - line(places.getStartPosition(unit, t)) + 1;
            is.due("rule 11: lines of " + t.getName() + " above sixty", Math.max(0, lines - 60), 0);
            is.due("rule 11: parameters of " + t.getName() + " above seven", Math.max(0, t.getParameters().size() - 7), 0);
            inMethods++;
            super.visitMethod(t, v);
            inMethods--;
            return null;
        }
    }
}

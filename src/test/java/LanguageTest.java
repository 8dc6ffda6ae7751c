import com.sun.source.tree.*;
import com.sun.source.util.JavacTask;
import com.sun.source.util.TreePath;
import com.sun.source.util.TreePathScanner;
import com.sun.source.util.Trees;
import java.io.IOException;
import java.net.URI;
import java.nio.charset.StandardCharsets;
import java.nio.file.Files;
import java.nio.file.Path;
import java.util.ArrayList;
import java.util.HashMap;
import java.util.HashSet;
import java.util.List;
import java.util.Map;
import java.util.Set;
import java.util.TreeMap;
import java.util.TreeSet;
import javax.lang.model.element.Element;
import javax.lang.model.element.ElementKind;
import javax.lang.model.element.Modifier;
import javax.lang.model.element.TypeElement;
import javax.lang.model.element.VariableElement;
import javax.lang.model.type.TypeKind;
import javax.lang.model.type.TypeMirror;
import javax.tools.JavaFileObject;
import javax.tools.SimpleJavaFileObject;
import javax.tools.ToolProvider;

/**
 * What of ../shared/LANGUAGE.md the compiler's tree of the program tells, rule by rule. Whether an index is looked at
 * before it is used (7) and whether a loop's end can be seen (9) it does not tell.
 */
public final class LanguageTest {
    private static final int MOST_DEEP = 8, MOST_LINES = 60, MOST_PARAMETERS = 7, MOST_CLASSES = 12, MOST_FIELDS = 20;
    // Of the rule's library only what the program uses so far; a call more of it needs a row here.
    private static final Set<String> LIBRARY = Set.of("java.lang.String.length", "java.lang.String.charAt",
        "java.lang.System.arraycopy", "java.lang.Integer.bitCount", "java.lang.Math.max", "java.lang.Math.min",
        "java.lang.Math.abs", "java.util.Arrays.fill", "java.lang.Object.<init>");
    private static final Set<Tree.Kind> RULED_OUT = Set.of(Tree.Kind.THROW, Tree.Kind.TRY, Tree.Kind.CATCH,
        Tree.Kind.SYNCHRONIZED, Tree.Kind.ASSERT, Tree.Kind.LAMBDA_EXPRESSION, Tree.Kind.MEMBER_REFERENCE,
        Tree.Kind.IMPORT, Tree.Kind.PACKAGE, Tree.Kind.SWITCH_EXPRESSION, Tree.Kind.YIELD);

    /** A source held in a text. */
    private static final class Source extends SimpleJavaFileObject {
        private final String code;

        Source(String code) {
            super(URI.create("string:///DogsPostman.java"), JavaFileObject.Kind.SOURCE);
            this.code = code;
        }

        @Override
        public CharSequence getCharContent(boolean ignoreEncodingErrors) {
            return code;
        }
    }

    /** Collects what the rules do not leave, each told as "rule N: ..". */
    private static final class Rules extends TreePathScanner<Void, Void> {
        final TreeSet<String> faults = new TreeSet<>();
        final Map<Element, Set<Element>> calls = new HashMap<>();
        private final Trees trees;
        private final CompilationUnitTree unit;
        private Element method;
        private int classes = 0;

        Rules(Trees trees, CompilationUnitTree unit) {
            this.trees = trees;
            this.unit = unit;
        }

        private void fault(int rule, String what) {
            faults.add("rule " + rule + ": " + what);
        }

        private Element elementHere() {
            return trees.getElement(getCurrentPath());
        }

        private boolean isOwn(Element e) {
            Element outer = e;
            while (outer.getEnclosingElement() != null && outer.getEnclosingElement().getKind() != ElementKind.PACKAGE) {
                outer = outer.getEnclosingElement();
            }
            return outer.getSimpleName().contentEquals("DogsPostman");
        }

        @Override
        public Void scan(Tree tree, Void none) {
            if (tree != null && RULED_OUT.contains(tree.getKind())) {
                fault(6, tree.getKind() + " " + tree);
            }
            return super.scan(tree, none);
        }

        @Override
        public Void visitClass(ClassTree c, Void none) {
            classes++;
            Element e = elementHere();
            boolean isOuter = getCurrentPath().getParentPath().getLeaf() == unit;
            boolean isMember = getCurrentPath().getParentPath().getLeaf() instanceof ClassTree;
            if (!isOuter && (!isMember || !e.getModifiers().contains(Modifier.STATIC))) {
                fault(2, "class " + c.getSimpleName() + " is not static");
            }
            int fields = 0;
            for (Tree member : c.getMembers()) {
                if (member instanceof VariableTree v && !v.getModifiers().getFlags().contains(Modifier.STATIC)) {
                    fields++;
                } else if (member.getKind() == Tree.Kind.BLOCK) {
                    fault(5, "a block in " + c.getSimpleName());
                }
            }
            if (fields > MOST_FIELDS) {
                fault(11, c.getSimpleName() + " has " + fields + " fields");
            }
            return super.visitClass(c, none);
        }

        @Override
        public Void visitMethod(MethodTree m, Void none) {
            Element outer = method;
            method = elementHere();
            calls.computeIfAbsent(method, e -> new HashSet<>());
            LineMap lines = unit.getLineMap();
            long begins = trees.getSourcePositions().getStartPosition(unit, m);
            long ends = trees.getSourcePositions().getEndPosition(unit, m);
            if (begins >= 0 && lines.getLineNumber(ends) - lines.getLineNumber(begins) + 1 > MOST_LINES) {
                fault(11, m.getName() + " is too long");
            }
            if (m.getParameters().size() > MOST_PARAMETERS) {
                fault(11, m.getName() + " takes too many");
            }
            if (!m.getThrows().isEmpty()) {
                fault(6, m.getName() + " throws");
            }
            if (Set.of("equals", "hashCode", "toString").contains(m.getName().toString())) {
                fault(6, m.getName() + " of its own");
            }
            super.visitMethod(m, none);
            method = outer;
            return null;
        }

        @Override
        public Void visitVariable(VariableTree v, Void none) {
            Element e = elementHere();
            boolean isStatic = e.getModifiers().contains(Modifier.STATIC);
            if (isStatic && !e.getModifiers().contains(Modifier.FINAL)) {
                fault(5, v.getName() + " is static, not final");
            }
            boolean isWrittenOut = v.getInitializer() instanceof NewArrayTree row && row.getInitializers() != null
                || e.getKind() == ElementKind.ENUM_CONSTANT;
            if (isStatic && !isWrittenOut && ((VariableElement) e).getConstantValue() == null) {
                fault(5, v.getName() + " is no constant");
            }
            aType(e.asType(), v.getName().toString());
            return super.visitVariable(v, none);
        }

        private void aType(TypeMirror told, String name) {
            TypeMirror t = told;
            int dimensions = 0;
            while (t.getKind() == TypeKind.ARRAY) {
                t = ((javax.lang.model.type.ArrayType) t).getComponentType();
                dimensions++;
            }
            boolean isOwn = t.getKind() == TypeKind.DECLARED && isOwn(((javax.lang.model.type.DeclaredType) t).asElement());
            boolean isText = t.toString().equals("java.lang.String");
            if (!t.getKind().isPrimitive() && !isOwn && !isText) {
                fault(3, name + " is a " + told);
            }
            if (dimensions > 2 || dimensions == 2 && !t.getKind().isPrimitive()) {
                fault(3, name + " has too many dimensions");
            }
        }

        private void aCall(Element called) {
            if (called == null) {
                fault(4, "a call that is not known");
            } else if (isOwn(called)) {
                if (method != null) {
                    calls.get(method).add(called);
                }
            } else {
                String name = ((TypeElement) called.getEnclosingElement()).getQualifiedName() + "." + called.getSimpleName();
                if (!LIBRARY.contains(name)) {
                    fault(4, "a call of " + name);
                }
            }
        }

        @Override
        public Void visitMethodInvocation(MethodInvocationTree call, Void none) {
            aCall(trees.getElement(new TreePath(getCurrentPath(), call.getMethodSelect())));
            return super.visitMethodInvocation(call, none);
        }

        @Override
        public Void visitNewClass(NewClassTree made, Void none) {
            if (made.getClassBody() != null) {
                fault(2, "a class without a name");
            }
            aCall(elementHere());
            return super.visitNewClass(made, none);
        }

        @Override
        public Void visitBinary(BinaryTree b, Void none) {
            TypeMirror t = trees.getTypeMirror(getCurrentPath());
            if (b.getKind() == Tree.Kind.PLUS && t != null && !t.getKind().isPrimitive()) {
                fault(10, "texts joined by +: " + b);
            }
            if (b.getKind() == Tree.Kind.EQUAL_TO || b.getKind() == Tree.Kind.NOT_EQUAL_TO) {
                twoTexts(b);
            }
            return super.visitBinary(b, none);
        }

        private void twoTexts(BinaryTree b) {
            TypeMirror left = trees.getTypeMirror(new TreePath(getCurrentPath(), b.getLeftOperand()));
            TypeMirror right = trees.getTypeMirror(new TreePath(getCurrentPath(), b.getRightOperand()));
            for (String name : new String[] {"java.lang.String", "java.lang.Integer"}) {
                if (String.valueOf(left).equals(name) && String.valueOf(right).equals(name)) {
                    fault(6, "two of " + name + " by " + b);
                }
            }
        }

        @Override
        public Void visitTypeCast(TypeCastTree cast, Void none) {
            TypeMirror t = trees.getTypeMirror(getCurrentPath());
            if (t == null || !t.getKind().isPrimitive()) {
                fault(6, "a cast " + cast);
            }
            return super.visitTypeCast(cast, none);
        }

        /** How many calls stand open at most from this one on; one that comes back to itself is a fault. */
        private int deep(Element from, List<Element> open, Map<Element, Integer> known) {
            if (open.contains(from)) {
                fault(8, from + " calls itself");
                return 1;
            }
            if (known.containsKey(from)) {
                return known.get(from);
            }
            open.add(from);
            int most = 0;
            for (Element e : calls.getOrDefault(from, Set.of())) {
                most = Math.max(most, deep(e, open, known));
            }
            open.remove(open.size() - 1);
            known.put(from, most + 1);
            return most + 1;
        }

        void end() {
            Map<Element, Integer> known = new HashMap<>();
            for (Element e : calls.keySet()) {
                int depth = deep(e, new ArrayList<>(), known);
                if (depth > MOST_DEEP) {
                    fault(11, e + " goes " + depth + " deep");
                }
            }
            if (classes > MOST_CLASSES) {
                fault(11, classes + " classes");
            }
        }
    }

    private static TreeSet<String> faultsOf(String code) throws IOException {
        var compiler = ToolProvider.getSystemJavaCompiler();
        JavacTask task = (JavacTask) compiler.getTask(null, null, d -> { }, List.of("-proc:none"), null, List.of(new Source(code)));
        CompilationUnitTree unit = task.parse().iterator().next();
        task.analyze();
        Rules rules = new Rules(Trees.instance(task), unit);
        rules.scan(unit, null);
        rules.end();
        for (int i = 0; i < code.length(); i++) {
            if (code.charAt(i) < 1 || code.charAt(i) > 127) {
                rules.fault(4, "a sign " + (int) code.charAt(i));
            }
        }
        return rules.faults;
    }

    /** What the rules do not leave is seen: one small program for each. */
    private static void seen(Check check) throws IOException {
        Map<String, String> broken = new TreeMap<>();
        broken.put("int a() { throw new RuntimeException(); }", "rule 6");
        broken.put("int a() { try { return 1; } finally { b(); } } void b() { }", "rule 6");
        broken.put("int a() { assert b() == 1; return 0; } int b() { return 1; }", "rule 6");
        broken.put("synchronized int a() { synchronized (this) { return 1; } }", "rule 6");
        broken.put("Runnable a() { Runnable r = () -> { }; return r; }", "rule 6");
        broken.put("int a(Object o) { return ((DogsPostman) o).a(this); }", "rule 6");
        broken.put("boolean a(String s, String t) { return s == t; }", "rule 6");
        broken.put("public String toString() { return null; }", "rule 6");
        broken.put("Object a() { return new Object() { }; }", "rule 2");
        broken.put("class B { }", "rule 2");
        broken.put("void a() { class B { } }", "rule 2");
        broken.put("Object o;", "rule 3");
        broken.put("int[][][] rows;", "rule 3");
        broken.put("int a(int b) { return Math.addExact(b, 1); }", "rule 4");
        broken.put("long a() { return System.nanoTime(); }", "rule 4");
        broken.put("static int made = 0;", "rule 5");
        broken.put("static final int[] ROW = new int[3];", "rule 5");
        broken.put("static final int A; static { A = 1; }", "rule 5");
        broken.put("int a(int b) { return b <= 0 ? 0 : a(b - 1); }", "rule 8");
        broken.put("int a(int b) { return c(b); } int c(int b) { return a(b); }", "rule 8");
        broken.put("String a(String s) { return s + 1; }", "rule 10");
        broken.put("void a(int b, int c, int d, int e, int f, int g, int h, int i) { }", "rule 11");
        broken.put("void a() { " + "\n".repeat(MOST_LINES) + "}", "rule 11");
        broken.put("void a() { b(); } void b() { c(); } void c() { d(); } void d() { e(); } void e() { f(); } "
            + "void f() { g(); } void g() { h(); } void h() { i(); } void i() { }", "rule 11");
        broken.put("int " + "a, b, c, d, e, f, g, h, i, j, k, l, m, n, o, p, q, r, s, t, u;", "rule 11");
        for (Map.Entry<String, String> one : broken.entrySet()) {
            TreeSet<String> faults = faultsOf("public final class DogsPostman { " + one.getKey() + " }");
            boolean isSeen = false;
            for (String fault : faults) {
                isSeen |= fault.startsWith(one.getValue() + ":");
            }
            check.isTrue(one.getValue() + " is broken by " + one.getKey() + ", told are " + faults, isSeen);
        }
        check.isTrue("a program that keeps to the rules", faultsOf("public final class DogsPostman { "
            + "private static final int A = 1; private static final int[] ROW = {1, 2}; int a(int b) { return Math.max(A, b); } "
            + "private static final class B { int[] row = new int[3]; } }").isEmpty());
    }

    public static void main(String[] args) throws IOException {
        Check check = new Check("LanguageTest");
        String program = Files.readString(Path.of("src/main/java/DogsPostman.java"), StandardCharsets.UTF_8);
        for (String fault : faultsOf(program)) {
            check.isTrue(fault, false);
        }
        seen(check);
        check.end();
    }
}

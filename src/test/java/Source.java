import com.sun.source.tree.ClassTree;
import com.sun.source.tree.CompilationUnitTree;
import com.sun.source.tree.MethodInvocationTree;
import com.sun.source.tree.MethodTree;
import com.sun.source.tree.Tree;
import com.sun.source.util.JavacTask;
import com.sun.source.util.TreePath;
import com.sun.source.util.TreePathScanner;
import com.sun.source.util.Trees;
import java.io.IOException;
import java.nio.file.Path;
import java.util.ArrayList;
import java.util.LinkedHashMap;
import java.util.LinkedHashSet;
import java.util.List;
import java.util.Map;
import java.util.Set;
import javax.lang.model.element.Element;
import javax.lang.model.element.TypeElement;
import javax.tools.JavaCompiler;
import javax.tools.StandardJavaFileManager;
import javax.tools.ToolProvider;

/** The program's text as the compiler reads it: its parts, with the names that stand for the same thing told apart. */
final class Source {
    private final CompilationUnitTree unit;
    private final Trees trees;
    private final List<TreePath> parts = new ArrayList<>();

    private Source(CompilationUnitTree unit, Trees trees) {
        this.unit = unit;
        this.trees = trees;
    }

    static Source read(Path path) throws IOException {
        JavaCompiler compiler = ToolProvider.getSystemJavaCompiler();
        try (StandardJavaFileManager files = compiler.getStandardFileManager(null, null, null)) {
            JavacTask task = (JavacTask) compiler.getTask(null, files, null, List.of("--release", "17"), null,
                files.getJavaFileObjects(path));
            Source source = new Source(task.parse().iterator().next(), Trees.instance(task));
            task.analyze();
            new TreePathScanner<Void, Void>() {
                @Override
                public Void scan(Tree tree, Void nothing) {
                    if (tree != null && !source.isUnwritten(tree)) {
                        source.parts.add(new TreePath(getCurrentPath(), tree));
                    }
                    return super.scan(tree, nothing);
                }
            }.scan(source.unit, null);
            return source;
        }
    }

    CompilationUnitTree unit() {
        return unit;
    }

    /** Every part of the program of one kind, in the order of the text. */
    <T extends Tree> List<T> all(Class<T> kind) {
        return allIn(unit, kind);
    }

    <T extends Tree> List<T> allIn(Tree whole, Class<T> kind) {
        List<T> found = new ArrayList<>();
        for (TreePath path : parts) {
            if (kind.isInstance(path.getLeaf()) && within(path, whole)) {
                found.add(kind.cast(path.getLeaf()));
            }
        }
        return found;
    }

    /** The nearest part of a kind that has this one in it, or null. */
    <T extends Tree> T around(Tree part, Class<T> kind) {
        for (TreePath path = pathOf(part).getParentPath(); path != null; path = path.getParentPath()) {
            if (kind.isInstance(path.getLeaf())) {
                return kind.cast(path.getLeaf());
            }
        }
        return null;
    }

    Tree parent(Tree part) {
        return pathOf(part).getParentPath().getLeaf();
    }

    /** What a name, a call or a declaration stands for. */
    Element meant(Tree part) {
        return trees.getElement(pathOf(part));
    }

    String typeOf(Tree part) {
        return trees.getTypeMirror(pathOf(part)).toString();
    }

    Set<String> ownClasses() {
        Set<String> names = new LinkedHashSet<>();
        for (ClassTree each : all(ClassTree.class)) {
            names.add(((TypeElement) meant(each)).getQualifiedName().toString());
        }
        return names;
    }

    /** Which methods each method calls, in all its lines. */
    Map<Element, Set<Element>> calls() {
        Map<Element, Set<Element>> calls = new LinkedHashMap<>();
        for (MethodTree method : all(MethodTree.class)) {
            Set<Element> called = new LinkedHashSet<>();
            for (MethodInvocationTree call : allIn(method, MethodInvocationTree.class)) {
                called.add(meant(call.getMethodSelect()));
            }
            calls.put(meant(method), called);
        }
        return calls;
    }

    long line(Tree part) {
        return unit.getLineMap().getLineNumber(trees.getSourcePositions().getStartPosition(unit, part));
    }

    long lines(Tree part) {
        return unit.getLineMap().getLineNumber(trees.getSourcePositions().getEndPosition(unit, part)) - line(part) + 1;
    }

    /** A constructor that the compiler adds, with what is in it, has no place of its own in the text. */
    private boolean isUnwritten(Tree tree) {
        return trees.getSourcePositions().getEndPosition(unit, tree) < 0;
    }

    private static boolean within(TreePath path, Tree whole) {
        for (TreePath each = path; each != null; each = each.getParentPath()) {
            if (each.getLeaf() == whole) {
                return true;
            }
        }
        return false;
    }

    private TreePath pathOf(Tree part) {
        for (TreePath path : parts) {
            if (path.getLeaf() == part) {
                return path;
            }
        }
        throw new IllegalArgumentException("not in the program: " + part);
    }
}

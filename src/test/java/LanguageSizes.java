import com.sun.source.tree.ClassTree;
import com.sun.source.tree.CompilationUnitTree;
import com.sun.source.tree.LineMap;
import com.sun.source.tree.MethodInvocationTree;
import com.sun.source.tree.MethodTree;
import com.sun.source.tree.NewClassTree;
import com.sun.source.tree.Tree;
import com.sun.source.util.TreePath;
import com.sun.source.util.TreePathScanner;
import com.sun.source.util.Trees;
import java.util.HashMap;
import java.util.HashSet;
import java.util.LinkedHashMap;
import java.util.LinkedHashSet;
import java.util.Map;
import java.util.Set;
import javax.lang.model.element.Element;
import javax.lang.model.element.ElementKind;
import javax.lang.model.element.Modifier;

/** Rule 11 of LANGUAGE.md: parameters, lines, classes, fields, and how deep calls go. */
final class LanguageSizes extends TreePathScanner<Void, Void> {
    private static final int MOST_PARAMETERS = 7;
    private static final int MOST_DEPTH = 8;
    // "Some sixty", "some twelve" and "some twenty" leave room for a few more.
    private static final int MOST_LINES = 66;
    private static final int MOST_CLASSES = 14;
    private static final int MOST_FIELDS = 24;

    private final Report report;
    private final Trees trees;
    private final CompilationUnitTree file;
    private final Map<Element, Set<Element>> calls = new LinkedHashMap<>();
    private final Map<Element, Integer> depths = new HashMap<>();
    private int classes;

    LanguageSizes(Report report, Trees trees, CompilationUnitTree file) {
        this.report = report;
        this.trees = trees;
        this.file = file;
    }

    private void due(String what, int got, int most) {
        report.due("rule 11: " + what + " are at most " + most + ", here " + got, got <= most, true);
    }

    @Override
    public Void visitClass(ClassTree tree, Void none) {
        classes++;
        int fields = 0;
        for (Tree member : tree.getMembers()) {
            Element element = trees.getElement(new TreePath(getCurrentPath(), member));
            if (element != null && element.getKind() == ElementKind.FIELD
                    && !element.getModifiers().contains(Modifier.STATIC)) {
                fields++;
            }
        }
        due("the fields of " + tree.getSimpleName(), fields, MOST_FIELDS);
        return super.visitClass(tree, none);
    }

    @Override
    public Void visitMethod(MethodTree tree, Void none) {
        calls.put(trees.getElement(getCurrentPath()), new LinkedHashSet<>());
        due("the parameters of " + tree.getName(), tree.getParameters().size(), MOST_PARAMETERS);
        LineMap lines = file.getLineMap();
        long start = trees.getSourcePositions().getStartPosition(file, tree);
        long end = trees.getSourcePositions().getEndPosition(file, tree);
        if (end >= 0) {
            int count = (int) (lines.getLineNumber(end) - lines.getLineNumber(start) + 1);
            due("the lines of " + tree.getName(), count, MOST_LINES);
        }
        return super.visitMethod(tree, none);
    }

    @Override
    public Void visitMethodInvocation(MethodInvocationTree tree, Void none) {
        keepCall(trees.getElement(getCurrentPath()));
        return super.visitMethodInvocation(tree, none);
    }

    @Override
    public Void visitNewClass(NewClassTree tree, Void none) {
        keepCall(trees.getElement(getCurrentPath()));
        return super.visitNewClass(tree, none);
    }

    private void keepCall(Element called) {
        TreePath path = getCurrentPath();
        while (path != null && !(path.getLeaf() instanceof MethodTree)) {
            path = path.getParentPath();
        }
        if (path != null && called != null) {
            calls.get(trees.getElement(path)).add(called);
        }
    }

    /** Behind the reading: how many methods stand open at once, where none calls itself by others. */
    void lookAtDepths() {
        due("the classes", classes, MOST_CLASSES);
        for (Element method : calls.keySet()) {
            due("the calls that stand open in " + method, depthOf(method, new HashSet<>()), MOST_DEPTH);
        }
    }

    private int depthOf(Element method, Set<Element> open) {
        if (!calls.containsKey(method) || !open.add(method)) {
            // The library's own calls are not counted, nor is a recursion.
            return 0;
        }
        Integer known = depths.get(method);
        int depth = known == null ? 0 : known;
        if (known == null) {
            for (Element called : calls.get(method)) {
                depth = Math.max(depth, depthOf(called, open));
            }
            depth++;
            depths.put(method, depth);
        }
        open.remove(method);
        return depth;
    }
}

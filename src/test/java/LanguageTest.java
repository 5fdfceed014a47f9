import com.sun.source.tree.CompilationUnitTree;
import com.sun.source.util.JavacTask;
import com.sun.source.util.Trees;
import java.nio.file.Path;
import java.util.List;
import javax.tools.JavaCompiler;
import javax.tools.StandardJavaFileManager;
import javax.tools.ToolProvider;

/**
 * The rules of LANGUAGE.md that can be read off the program: the compiler reads its file and tells
 * the types, and each part of it is held against the rules. FaceTest looks at the face (rule 1).
 */
public final class LanguageTest {
    private static final Report report = new Report("LanguageTest");

    public static void main(String[] args) throws Exception {
        JavaCompiler compiler = ToolProvider.getSystemJavaCompiler();
        if (compiler == null) {
            System.out.println("LanguageTest: this java has no compiler inside it, nothing is looked at");
            return;
        }
        StandardJavaFileManager files = compiler.getStandardFileManager(null, null, null);
        JavacTask task = (JavacTask) compiler.getTask(null, files, null, List.of("-proc:none"), null,
                files.getJavaFileObjects(Path.of(args[0])));
        CompilationUnitTree file = task.parse().iterator().next();
        task.analyze();
        Trees trees = Trees.instance(task);
        report.due("rule 1: there is no package line", file.getPackageName() == null, true);
        report.due("rule 1: there is one class, with all others inside it", file.getTypeDecls().size(), 1);
        new LanguageRules(report, trees, file).scan(file, null);
        LanguageSizes sizes = new LanguageSizes(report, trees, file);
        sizes.scan(file, null);
        sizes.lookAtDepths();
        report.close();
    }
}

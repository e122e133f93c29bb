import com.sun.source.tree.CompilationUnitTree;
import com.sun.source.util.JavacTask;
import com.sun.source.util.Trees;
import java.io.IOException;
import java.nio.file.Path;
import java.util.List;
import javax.tools.JavaCompiler;
import javax.tools.StandardJavaFileManager;
import javax.tools.ToolProvider;

/** The class keeps to the rules of ../shared/LANGUAGE.md, as far as its source text tells. */
public final class RulesTest {
    public static void main(String[] args) throws IOException {
        JavaCompiler compiler = ToolProvider.getSystemJavaCompiler();
        try (StandardJavaFileManager files = compiler.getStandardFileManager(null, null, null)) {
            var sources = files.getJavaFileObjects(Path.of("src/main/java/ThornCores.java"));
            List<String> options = List.of("-proc:none");
            JavacTask task = (JavacTask) compiler.getTask(null, files, null, options, null, sources);
            CompilationUnitTree unit = task.parse().iterator().next();
            task.analyze();
            SourceRules rules = new SourceRules(Trees.instance(task), unit);
            rules.scan(unit, null);
            rules.atTheEnd();
        }
        Check.finish();
    }
}

import com.sun.source.tree.CompilationUnitTree;
import com.sun.source.util.JavacTask;
import com.sun.source.util.Trees;
import java.io.IOException;
import java.util.List;
import javax.tools.JavaCompiler;
import javax.tools.StandardJavaFileManager;
import javax.tools.ToolProvider;

/** The rules of ../shared/LANGUAGE.md as far as the program's own lines show whether they are kept. */
public final class LanguageTest {
    public static void main(String[] args) throws IOException {
        JavaCompiler compiler = ToolProvider.getSystemJavaCompiler();
        try (StandardJavaFileManager files = compiler.getStandardFileManager(null, null, null)) {
            JavacTask task = (JavacTask) compiler.getTask(null, files, null, List.of("-proc:none"), null,
                files.getJavaFileObjects(Document.PROGRAM));
            CompilationUnitTree unit = task.parse().iterator().next();
            task.analyze();
            LanguageRules rules = new LanguageRules(unit, Trees.instance(task));
            rules.scan(unit, null);
            rules.calls().open(task.getTypes());
            Checks.sameText("what breaks a rule", rules.broken(), "");
            Checks.same("rule 11: at most twelve classes", Math.max(12, rules.classes()), 12);
            Checks.sameText("rule 8: calls in a ring", rules.calls().ring(), "");
            Checks.sameText("rule 11: deeper than eight", rules.calls().deeperThan(8), "");
            Checks.same("methods were seen", rules.calls().size() > 50 ? 1 : 0, 1);
        }
        long others = Document.read(Document.PROGRAM).chars().filter(sign -> sign < 1 || sign > 127).count();
        Checks.same("rule 4: signs beyond 1 to 127", others, 0);
        Checks.end("LanguageTest");
    }
}

import com.sun.source.tree.CompilationUnitTree;
import com.sun.source.tree.MethodInvocationTree;
import com.sun.source.tree.MethodTree;
import com.sun.source.tree.NewArrayTree;
import com.sun.source.tree.NewClassTree;
import com.sun.source.tree.Tree;
import com.sun.source.util.JavacTask;
import com.sun.source.util.TreePath;
import com.sun.source.util.TreePathScanner;
import com.sun.source.util.Trees;
import java.nio.file.Path;
import java.util.ArrayList;
import java.util.List;
import java.util.Map;
import java.util.Set;
import java.util.TreeMap;
import java.util.TreeSet;
import javax.lang.model.element.Element;
import javax.lang.model.element.Modifier;
import javax.tools.JavaCompiler;
import javax.tools.StandardJavaFileManager;
import javax.tools.ToolProvider;

/** The rules of LANGUAGE.md about methods: how deep calls go, which may call themselves, how long they are. */
public final class CallGraphTest extends TreePathScanner<Void, Void> {
  private static final int MOST_DEEP = 8, MOST_LINES = 60;

  private final Trees trees;
  private final CompilationUnitTree unit;
  /** What each method of the class calls, the library's functions too. */
  private final Map<String, Set<String>> calls = new TreeMap<>();
  private String method = "";
  private int wrong = 0;

  private CallGraphTest(Trees trees, CompilationUnitTree unit) {
    this.trees = trees;
    this.unit = unit;
  }

  private void must(boolean holds, String rule) {
    if (holds) return;
    wrong++;
    System.out.println("not as due: " + rule);
  }

  private static String name(Element element) {
    return element.getEnclosingElement() + "." + element.getSimpleName();
  }

  private long line(long position) {
    return unit.getLineMap().getLineNumber(position);
  }

  @Override
  public Void visitMethod(MethodTree tree, Void nothing) {
    method = name(trees.getElement(getCurrentPath()));
    calls.computeIfAbsent(method, key -> new TreeSet<>());
    long first = line(trees.getSourcePositions().getStartPosition(unit, tree));
    long last = line(trees.getSourcePositions().getEndPosition(unit, tree));
    must(last - first < MOST_LINES, "rule 11: " + method + " has too many lines");
    super.visitMethod(tree, nothing);
    boolean isHidden = tree.getModifiers().getFlags().containsAll(Set.of(Modifier.PRIVATE, Modifier.STATIC));
    must(isHidden || !calls.get(method).contains(method), "rule 8: " + method + " calls itself, not private static");
    method = "";
    return null;
  }

  @Override
  public Void visitMethodInvocation(MethodInvocationTree tree, Void nothing) {
    called(tree.getMethodSelect());
    return super.visitMethodInvocation(tree, nothing);
  }

  @Override
  public Void visitNewClass(NewClassTree tree, Void nothing) {
    called(tree);
    made();
    return super.visitNewClass(tree, nothing);
  }

  @Override
  public Void visitNewArray(NewArrayTree tree, Void nothing) {
    made();
    return super.visitNewArray(tree, nothing);
  }

  private void called(Tree tree) {
    if (!method.isEmpty()) calls.get(method).add(name(trees.getElement(new TreePath(getCurrentPath(), tree))));
  }

  /** All calls of a run share one room: what a call makes would have to be counted. */
  private void made() {
    must(method.isEmpty() || method.endsWith("<init>"), "README: no call makes an object, but " + method);
  }

  /** The longest chain of calls: the method itself counts, the library's functions too, a recursion once. */
  private List<String> deepest(String from, List<String> above) {
    List<String> path = new ArrayList<>(above);
    path.add(from);
    List<String> longest = path;
    for (String to : calls.getOrDefault(from, Set.of())) {
      if (path.contains(to)) continue;
      List<String> other = deepest(to, path);
      if (other.size() > longest.size()) longest = other;
    }
    return longest;
  }

  private void depths() {
    must(calls.containsKey("SprinklerHouse.choose") && calls.containsKey("SprinklerHouse.<init>"), "the class is read");
    for (String from : calls.keySet()) {
      List<String> path = deepest(from, List.of());
      must(path.size() <= MOST_DEEP, "rule 11: calls at most eight deep, but " + path);
    }
  }

  public static void main(String[] args) throws Exception {
    JavaCompiler compiler = ToolProvider.getSystemJavaCompiler();
    try (StandardJavaFileManager files = compiler.getStandardFileManager(null, null, null)) {
      JavacTask task = (JavacTask) compiler.getTask(null, files, null, List.of("-proc:none"), null,
          files.getJavaFileObjects(Path.of("src/main/java/SprinklerHouse.java")));
      CompilationUnitTree unit = task.parse().iterator().next();
      task.analyze();
      CallGraphTest test = new CallGraphTest(Trees.instance(task), unit);
      test.scan(new TreePath(unit), null);
      test.depths();
      System.out.println(test.calls.size() + " methods, " + test.wrong + " rules are not kept");
      if (test.wrong != 0) System.exit(1);
    }
  }
}

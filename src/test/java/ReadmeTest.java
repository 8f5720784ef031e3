import java.io.IOException;
import java.lang.reflect.Method;
import java.lang.reflect.Modifier;
import java.nio.file.Files;
import java.nio.file.Path;
import java.util.Set;
import java.util.TreeSet;
import java.util.regex.Matcher;
import java.util.regex.Pattern;

/**
 * README.md agrees with the class and with the tests that are there: each call of its run answers
 * what stands behind it, no call of the face is left out, and the tests that it names, or that it
 * says are there for each call, are there.
 */
public final class ReadmeTest {
  private static final Path README = Path.of("README.md");
  private static final Path TESTS = Path.of("src/test/java");
  private static final Pattern CALL =
      Pattern.compile("keeper\\.(\\w+)(\\([^)]*\\)); +// (throws \\w+|[\\w-]+)(: .*)?");

  private static int wrong = 0;

  public static void main(String[] args) throws IOException {
    String readme = Files.readString(README);
    Set<String> called = checkRun(readme);
    for (Method method : ScopeKeeper.class.getDeclaredMethods()) {
      if (Modifier.isPublic(method.getModifiers())) {
        String name = method.getName();
        check(called.contains(name), "the run has no " + name);
        checkTest(Character.toUpperCase(name.charAt(0)) + name.substring(1) + "Test");
      }
    }
    Matcher named = Pattern.compile("\\b[A-Z]\\w*Test\\b").matcher(readme);
    while (named.find()) {
      checkTest(named.group());
    }
    check(readme.contains("\n.ci/run\n"), "it does not tell how the tests are run");
    check(Files.isExecutable(Path.of(".ci/run")), ".ci/run is not there to be run");
    if (wrong > 0) {
      System.exit(1);
    }
  }

  /** Makes the calls of the one block of Java: the names of those it made. */
  private static Set<String> checkRun(String readme) {
    Set<String> called = new TreeSet<>();
    ScopeKeeper keeper = new ScopeKeeper();
    int start = readme.indexOf("```java\n") + "```java\n".length();
    String block = readme.substring(start, readme.indexOf("```", start));
    for (String line : block.split("\n")) {
      Matcher parts = CALL.matcher(line);
      if (parts.matches()) {
        String due = parts.group(3);
        String got = Runs.answer(keeper, parts.group(1) + parts.group(2));
        String told = got.replace("= null", "nothing").replace("= ", "");
        check(told.equals(due), line + " was: " + told);
        called.add(parts.group(1));
      } else {
        check(line.equals("ScopeKeeper keeper = new ScopeKeeper();"), "no call: " + line);
      }
    }
    return called;
  }

  private static void checkTest(String name) {
    check(Files.isRegularFile(TESTS.resolve(name + ".java")), "there is no " + name);
  }

  private static void check(boolean holds, String fault) {
    if (!holds) {
      wrong++;
      System.out.println("README.md: " + fault);
    }
  }
}

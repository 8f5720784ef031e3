import java.lang.reflect.InvocationTargetException;
import java.lang.reflect.Method;
import java.util.ArrayList;
import java.util.List;

/**
 * Runs of calls, written as text, each on a new ScopeKeeper. A line is one of
 *   call(1, 2)              it throws nothing
 *   call(1, 2) = 3          it answers this (an int, true or false)
 *   call(1, 2) throws E     it throws exactly this exception
 * and what stands behind # is a remark. A run has at most 512 calls: of later ones the document
 * promises nothing.
 */
final class Runs {
  /** The numbers at the ends of an int, which every argument is tried with. */
  static final int[] ENDS = {Integer.MIN_VALUE, Integer.MIN_VALUE + 1, Integer.MAX_VALUE - 1,
    Integer.MAX_VALUE};

  private static final int MOST_CALLS = 512;

  private int calls = 0;
  private int wrong = 0;

  void run(String name, String... parts) {
    ScopeKeeper keeper = new ScopeKeeper();
    List<String> lines = linesOf(parts);
    if (lines.isEmpty() || lines.size() > MOST_CALLS) {
      wrong++;
      System.out.println(name + ": a run of " + lines.size() + " calls");
    }
    for (String line : lines) {
      check(name, keeper, line);
    }
  }

  /** The lines of a run without remarks and empty ones. */
  static List<String> linesOf(String... parts) {
    List<String> lines = new ArrayList<>();
    for (String line : String.join("\n", parts).split("\n")) {
      String words = line.replaceAll("#.*", "").trim();
      if (!words.isEmpty()) {
        lines.add(words);
      }
    }
    return lines;
  }

  /** Ends the program, with exit code 1 if a call was not answered as is due. */
  void end() {
    if (calls == 0 || wrong > 0) {
      System.out.println(wrong + " of " + calls + " calls are not as due");
      System.exit(1);
    }
  }

  /** The same lines for each of the numbers, with every {i} replaced by it. */
  static String forAll(int[] numbers, String lines) {
    StringBuilder all = new StringBuilder();
    for (int i : numbers) {
      all.append(each(i, i, lines));
    }
    return all.toString();
  }

  /** The same lines for i from first to last, with every {i} replaced by it. */
  static String each(int first, int last, String lines) {
    StringBuilder all = new StringBuilder();
    for (long i = first; i <= last; i++) {
      all.append(lines.replace("{i}", String.valueOf(i))).append('\n');
    }
    return all.toString();
  }

  private void check(String name, ScopeKeeper keeper, String line) {
    String call = line.substring(0, line.indexOf(')') + 1);
    String due = line.substring(call.length()).trim();
    String got = answer(keeper, call);
    calls++;
    boolean right = due.isEmpty() ? !got.startsWith("throws") : got.equals(due);
    if (!right) {
      wrong++;
      System.out.println(name + ": " + call + " was: " + got + "; due: " + due);
    }
  }

  /**
   * What the call on a ScopeKeeper, or on what has its methods, answers, as a line tells it: "= 3",
   * "= null" for nothing, or "throws E".
   */
  static String answer(Object keeper, String call) {
    String name = call.substring(0, call.indexOf('('));
    String inner = call.substring(name.length() + 1, call.length() - 1).trim();
    String[] words = inner.isEmpty() ? new String[0] : inner.split("\\s*,\\s*");
    try {
      Method method = methodNamed(keeper, name);
      Object[] arguments = new Object[words.length];
      for (int i = 0; i < words.length; i++) {
        arguments[i] = method.getParameterTypes()[i] == boolean.class
            ? (Object) Boolean.valueOf(words[i]) : (Object) Integer.valueOf(words[i]);
      }
      return "= " + method.invoke(keeper, arguments);
    } catch (InvocationTargetException e) {
      return "throws " + e.getCause().getClass().getSimpleName();
    } catch (IllegalAccessException e) {
      throw new IllegalStateException(call, e);
    }
  }

  private static Method methodNamed(Object keeper, String name) {
    for (Method method : keeper.getClass().getMethods()) {
      if (method.getName().equals(name)) {
        return method;
      }
    }
    throw new IllegalArgumentException("no method " + name);
  }
}

import java.util.ArrayList;
import java.util.List;

/**
 * A call that is refused changes nothing. Each refused call is made on an object of its own that
 * is full of everything; all that is asked and done behind it is answered as if it had not been.
 */
public final class RefusedCallsTest {
  private static final int MOST_CALLS = 512;

  /**
   * Five registrations: scope 0 with an active, a waiting and an installing worker, 1 leaving, 28
   * and 2 with one active worker, 3 with an installing one alone. Eight clients. A full row.
   */
  private static final String EVERYTHING = """
      serve(0, 5, 0, 0, 1)
      serve(1, 6, 1, 0, 2)
      serve(3, 7, 0, 1, 3)
      job(0, 0, 0)
      step(0)
      step(0)
      open(5)
      open(6)
      serve(0, 8, 0, 0, 1)
      job(1, 0, 0)
      step(0)
      step(0)
      serve(0, 9, 0, 0, 2)
      job(1, 0, 0)
      step(0)
      job(0, 1, 1)
      step(1)
      step(1)
      open(1)
      open(55)
      job(2, 1, 0)
      step(1)
      job(0, 28, 1)
      step(28)
      step(28)
      open(28)
      open(757)
      job(0, 2, 0)
      step(2)
      step(2)
      open(2)
      open(29)
      job(0, 3, 3)
      step(3)
      job(0, 4, 0)
      job(1, 4, 0)
      job(2, 4, 0)
      job(0, 4, 3)
      job(1, 1, 0)
      network(true, 100)
      fetch(0, 1)
      fetch(0, 2)
      fetch(0, 3)
      fetch(0, 4)
      fetch(4, 7)
      """;

  private static final String REFUSED = """
      serve(-1, 1, 0, 0, 0) throws IllegalArgumentException
      serve(4, 1, 0, 0, 0) throws IllegalArgumentException
      serve(0, 1, 27, 1, 3) throws IllegalArgumentException
      serve(0, 1, 1, 2, 3) throws IllegalArgumentException
      serve(0, 1, 1, 1, 4) throws IllegalArgumentException
      serve(1, 1, 28, 1, -1) throws IllegalArgumentException
      job(-1, 28, 0) throws IllegalArgumentException
      job(3, 28, 0) throws IllegalArgumentException
      job(0, 27, 0) throws IllegalArgumentException
      job(0, 28, -1) throws IllegalArgumentException
      job(0, 28, 4) throws IllegalArgumentException
      job(1, 4, 0) throws IllegalStateException
      job(0, 4, 0) throws IllegalStateException
      step(-1) throws IllegalArgumentException
      step(27) throws IllegalArgumentException
      step(28) throws NoSuchElementException
      step(5) throws NoSuchElementException
      open(27) throws IllegalArgumentException
      open(1) throws IllegalStateException
      close(8) throws NoSuchElementException
      close(-1) throws NoSuchElementException
      claim(27) throws IllegalArgumentException
      claim(4) throws NoSuchElementException
      claim(3) throws IllegalStateException
      skip(27) throws IllegalArgumentException
      skip(4) throws NoSuchElementException
      skip(28) throws IllegalStateException
      skip(1) throws IllegalStateException
      fetch(0, 27) throws IllegalArgumentException
      fetch(8, 1) throws NoSuchElementException
      registration(27, 0) throws IllegalArgumentException
      registration(0, 5) throws IllegalArgumentException
      registration(4, 0) throws NoSuchElementException
      worker(1, 5) throws IllegalArgumentException
      worker(99, 0) throws IndexOutOfBoundsException
      outcome(60) throws IndexOutOfBoundsException
      trace(60) throws IndexOutOfBoundsException
      count(6) throws IllegalArgumentException
      """;

  private static final String REFUSED_WHEN_DOWN = """
      fetch(0, 5) throws UnsupportedOperationException
      fetch(4, 5) throws UnsupportedOperationException
      fetch(0, 27) throws IllegalArgumentException
      fetch(8, 1) throws NoSuchElementException
      """;

  /** All that can be asked. */
  private static final String QUESTIONS = Runs.each(0, 5, "count({i})")
      + Runs.each(10, 17, "count({i})")
      + Runs.each(20, 27, "count({i})")
      + Runs.each(30, 34, "count({i})")
      + Runs.each(1, 7, workerQuestions())
      + Runs.each(0, 4, """
          registration(0, {i})
          registration(1, {i})
          registration(28, {i})
          registration(2, {i})
          registration(3, {i})
          """)
      + Runs.each(0, 12, "outcome({i})")
      + Runs.each(0, 30, "trace({i})");

  /** Calls whose answers tell what cannot be asked: scripts, NET, rows, who skips, begun jobs. */
  private static final String WHAT_FOLLOWS = """
      fetch(6, 5)
      network(true, 100)
      fetch(0, 1)
      fetch(0, 5)
      fetch(4, 7)
      step(0)
      step(3)
      step(4)
      step(4)
      step(1)
      close(2)
      close(3)
      job(0, 26, 0)
      step(26)
      step(26)
      job(0, 28, 1)
      step(28)
      job(0, 28, 3)
      step(28)
      step(28)
      open(1)
      open(1)
      """ + Runs.each(8, 10, workerQuestions()) + Runs.each(0, 17, "outcome({i})")
      + Runs.each(0, 5, "count({i})") + Runs.each(10, 17, "count({i})")
      + Runs.each(0, 59, "trace({i})");

  public static void main(String[] args) {
    int wrong = changesBy("", REFUSED) + changesBy("network(false, 7)\n", REFUSED_WHEN_DOWN);
    if (wrong > 0) {
      System.exit(1);
    }
  }

  private static String workerQuestions() {
    StringBuilder all = new StringBuilder();
    for (int what = 0; what <= 23; what++) {
      if (what <= 4 || what >= 10 && what <= 13 || what >= 20) {
        all.append("worker({i}, ").append(what).append(")\n");
      }
    }
    return all.toString();
  }

  /** How many of the refused calls threw something else, or changed what is answered. */
  private static int changesBy(String before, String refusedLines) {
    int wrong = 0;
    String setup = EVERYTHING + before;
    List<String> asked = answers(setup, "", QUESTIONS);
    List<String> followed = answers(setup, "", WHAT_FOLLOWS);
    for (String line : Runs.linesOf(refusedLines)) {
      String call = line.substring(0, line.indexOf(" throws"));
      boolean same = answers(setup, line, QUESTIONS).equals(asked)
          && answers(setup, line, WHAT_FOLLOWS).equals(followed);
      if (!same) {
        wrong++;
        System.out.println(before + call + " is not refused as due, or changed something");
      }
    }
    return wrong;
  }

  private static List<String> answers(String setup, String refused, String calls) {
    ScopeKeeper keeper = new ScopeKeeper();
    List<String> all = new ArrayList<>();
    for (String call : Runs.linesOf(setup)) {
      String answer = Runs.answer(keeper, call);
      if (answer.startsWith("throws")) {
        throw new IllegalStateException(call + " " + answer);
      }
    }
    for (String line : Runs.linesOf(refused)) {
      int end = line.indexOf(')') + 1;
      String got = Runs.answer(keeper, line.substring(0, end));
      if (!got.equals(line.substring(end).trim())) {
        all.add(line + ", but was: " + got);
      }
    }
    for (String call : Runs.linesOf(calls)) {
      all.add(call + " " + Runs.answer(keeper, call));
    }
    if (Runs.linesOf(setup, refused, calls).size() > MOST_CALLS) {
      throw new IllegalStateException("more calls than the document promises answers for");
    }
    return all;
  }
}

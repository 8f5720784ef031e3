/**
 * The edges that the Terms name, each by a run that bears the sentence's own words as its name.
 * PathTest has those of PATH and BEGINS, StepEdgesTest those of a STEP.
 */
public final class TermEdgesTest {
  /** Makes 39 workers, none of which is left: each has a flaw, and its registration goes. */
  private static final String THIRTY_NINE_WORKERS = "serve(0, 1, 0, 1, 0)\n" + Runs.each(1, 39, """
      job(0, 1, 0)
      step(1)
      count(1) = {i}
      worker({i}, 0) = 1
      step(1)
      worker({i}, 0) = 4
      """);

  public static void main(String[] args) {
    Runs runs = new Runs();
    network(runs);
    workers(runs);
    caches(runs);
    registrations(runs);
    clients(runs);
    jobs(runs);
    rows(runs);
    runs.end();
  }

  private static void network(Runs runs) {
    runs.run("NET (an int, 0 at first)", """
        open(0) = 0
        fetch(0, 0) = 0
        fetch(0, 1) = 1
        fetch(0, 531440) = 531440
        """);
    runs.run("and the PATH as a number more (wrapping): over the greatest", """
        open(0) = 0
        network(true, 2146952207)
        fetch(0, 531440) = 2147483647     # just not over
        network(true, 2146952208)
        fetch(0, 531440) = -2147483648    # just over
        network(true, 2147483647)
        fetch(0, 0) = 2147483647
        fetch(0, 1) = -2147483648
        fetch(0, 531440) = -2146952209
        """);
    runs.run("and the PATH as a number more (wrapping): from the least, and over 0", """
        open(0) = 0
        network(true, -2147483648)
        fetch(0, 0) = -2147483648
        fetch(0, 531440) = -2146952208
        network(true, -1)
        fetch(0, 0) = -1
        fetch(0, 1) = 0
        fetch(0, 2) = 1
        """);
  }

  private static void workers(Runs runs) {
    runs.run("numbered 1, 2, .. as they are made: over all scopes", """
        worker(1, 0) throws IndexOutOfBoundsException
        job(0, 28, 0)
        job(0, 1, 0)
        step(28)
        registration(28, 1) = 1
        step(1)
        registration(1, 1) = 2
        job(0, 0, 0)
        step(0)
        registration(0, 1) = 3
        count(1) = 3
        """);
    runs.run("at most 40: the fortieth is made, and becomes active", THIRTY_NINE_WORKERS, """
        serve(0, 2, 0, 0, 0)
        job(0, 1, 0) = 39
        step(1) = 39
        outcome(39) = 0
        count(1) = 40
        worker(40, 0) = 1
        registration(1, 1) = 40
        step(1) = 39
        outcome(39) = 1
        worker(40, 0) = 3
        registration(1, 3) = 40
        open(1) = 0
        count(10) = 40
        """);
    runs.run("at most 40: with a flaw the fortieth leaves no room behind it", THIRTY_NINE_WORKERS, """
        job(0, 1, 0) = 39
        step(1) = 39
        step(1) = 39
        worker(40, 0) = 4
        outcome(39) = -3
        count(0) = 0
        job(0, 1, 0) = 40
        step(1) = 40
        outcome(40) = -5
        count(1) = 40
        """);
    runs.run("at most 40: no forty-first is made", THIRTY_NINE_WORKERS, """
        serve(0, 2, 0, 0, 0)
        job(0, 1, 0) = 39
        job(0, 2, 0) = 40
        step(1) = 39
        step(2) = 40                # while the fortieth is installing
        outcome(40) = -5
        count(0) = 1
        count(1) = 40
        step(1) = 39
        outcome(39) = 1
        job(0, 2, 0) = 41
        step(2) = 41
        outcome(41) = -5
        count(1) = 40
        worker(40, 0) = 3
        worker(41, 0) throws IndexOutOfBoundsException
        """);
    runs.run("as the SCRIPT had them then", """
        serve(1, 5, 1, 1, 3)
        job(0, 1, 1) = 0
        serve(1, 6, 1, 0, 2)        # before the step
        step(1) = 0
        serve(1, 7, 2, 1, 1)        # behind it
        worker(1, 1) = 6
        worker(1, 2) = 2
        step(1) = 0
        outcome(0) = 1              # it was made without a flaw
        worker(1, 1) = 6
        worker(1, 2) = 2
        """);
  }

  private static void caches(Runs runs) {
    String controlled = """
        serve(0, 0, 0, 0, 1)
        job(0, 0, 0)
        step(0)
        step(0)
        open(0) = 0
        network(true, 100)
        """;
    runs.run("a CACHE of at most 4 PATHS: none at first", controlled,
        "worker(1, 4) = 0",
        Runs.each(10, 13, "worker(1, {i}) = 0"),
        Runs.each(20, 23, "worker(1, {i}) = 0"));
    runs.run("with values, in the order in which they came", controlled, """
        fetch(0, 9) = 109
        worker(1, 4) = 1
        fetch(0, 3) = 103
        worker(1, 4) = 2
        fetch(0, 0) = 100
        worker(1, 4) = 3
        fetch(0, 531440) = 531540
        worker(1, 4) = 4
        worker(1, 10) = 9
        worker(1, 11) = 3
        worker(1, 12) = 0
        worker(1, 13) = 531440
        worker(1, 20) = 109
        worker(1, 21) = 103
        worker(1, 22) = 100
        worker(1, 23) = 531540
        """);
    runs.run("a CACHE of at most 4 PATHS: a fifth", controlled, Runs.each(1, 5, "fetch(0, {i})"), """
        worker(1, 4) = 4
        worker(1, 10) = 2
        worker(1, 11) = 3
        worker(1, 12) = 4
        worker(1, 13) = 5
        worker(1, 20) = 102
        worker(1, 23) = 105
        """, Runs.each(6, 9, "fetch(0, {i})"), """
        worker(1, 4) = 4
        worker(1, 10) = 6
        worker(1, 13) = 9
        """);
  }

  private static void registrations(Runs runs) {
    String five = Runs.each(1, 5, """
        job(0, {i}, 0)
        step({i})
        step({i})
        count(0) = {i}
        """);
    runs.run("no two the same", """
        serve(1, 1, 0, 0, 0)
        job(0, 1, 0)
        step(1)
        step(1)
        job(0, 1, 1)
        step(1)
        count(0) = 1                # another script, the same registration
        step(1)
        job(0, 1, 1)
        step(1)
        count(0) = 1
        count(30) = 1
        count(31) = -1
        """);
    runs.run("at most 5: a sixth", five, """
        job(0, 6, 0) = 5
        step(6) = 5
        outcome(5) = -5
        count(0) = 5
        count(1) = 5
        registration(6, 0) throws NoSuchElementException
        """);
    runs.run("at most 5: one that goes leaves its place", five, """
        job(2, 3, 0)
        step(3)
        count(0) = 4
        job(0, 6, 0) = 6
        step(6) = 6
        outcome(6) = 0
        count(0) = 5
        job(0, 7, 0) = 7
        step(7) = 7
        outcome(7) = -5
        """);
    runs.run("at most 5: one whose only worker is installing has a place, till it fails",
        Runs.each(1, 4, """
            job(0, {i}, 0)
            step({i})
            step({i})
            """),
        """
        serve(1, 1, 0, 1, 0)
        job(0, 5, 1) = 4
        step(5) = 4
        count(0) = 5
        job(0, 6, 0) = 5
        step(6) = 5
        outcome(5) = -5
        step(5) = 4
        outcome(4) = -3
        count(0) = 4
        job(0, 6, 0) = 6
        step(6) = 6
        outcome(6) = 0
        count(34) = 6
        """);
  }

  private static void clients(Runs runs) {
    runs.run("CLIENTS 0 to 7", Runs.each(0, 7, """
        open({i}) = {i}
        count(2{i}) = {i}
        """), """
        open(8) throws IllegalStateException
        count(2) = 8
        close(7) = 0
        open(26) = 7
        count(27) = 26
        """);
    runs.run("of those that are not LEAVING", """
        job(0, 0, 0)
        step(0)
        step(0)
        job(0, 1, 0)
        step(1)
        step(1)
        open(1) = 0
        count(10) = 2
        job(2, 1, 0)
        step(1)
        open(1) = 1
        count(11) = 1
        job(0, 1, 0)
        step(1)                     # it is not leaving any more
        open(1) = 2
        count(12) = 2
        """);
    runs.run("have an ACTIVE WORKER", """
        job(0, 0, 0)
        step(0)
        step(0)
        job(0, 1, 0)
        step(1)
        open(1) = 0
        count(10) = 1
        step(1)
        open(1) = 1
        count(11) = 2
        """);
    // 28, 757 and 20440 are two, three and four letters 1.
    runs.run("and a SCOPE that BEGINS it, that with the most LETTERS: the longest first", """
        job(0, 20440, 0)
        step(20440)
        step(20440)
        job(0, 757, 0)
        step(757)
        step(757)
        job(0, 28, 0)
        step(28)
        step(28)
        job(0, 1, 0)
        step(1)
        step(1)
        job(0, 0, 0)
        step(0)
        step(0)
        """, LONG_AND_SHORT_PATHS, """
        count(10) = 1
        count(11) = 2
        count(12) = 3
        count(13) = 4
        count(14) = 5
        count(15) = 2
        count(16) = 3
        count(17) = 5
        """);
    runs.run("and a SCOPE that BEGINS it, that with the most LETTERS: the longest last", """
        job(0, 0, 0)
        step(0)
        step(0)
        job(0, 1, 0)
        step(1)
        step(1)
        job(0, 28, 0)
        step(28)
        step(28)
        job(0, 757, 0)
        step(757)
        step(757)
        job(0, 20440, 0)
        step(20440)
        step(20440)
        """, LONG_AND_SHORT_PATHS, """
        count(10) = 5
        count(11) = 4
        count(12) = 3
        count(13) = 2
        count(14) = 1
        count(15) = 4
        count(16) = 3
        count(17) = 1
        """);
    runs.run("a SCOPE with a greater number that does not begin it", """
        job(0, 1, 0)
        step(1)
        step(1)
        job(0, 26, 0)
        step(26)
        step(26)
        job(0, 531440, 0)
        step(531440)
        step(531440)
        open(28) = 0
        count(10) = 1
        open(531440) = 1
        count(11) = 3
        open(19682) = 2             # 531440 is longer than this
        count(12) = 2
        open(2) = 3
        count(13) = 0
        """);
  }

  /** 40123 and 1486 are three and two letters 1 with a 2 behind them, 29 is 2, 1. */
  private static final String LONG_AND_SHORT_PATHS = """
      open(20440) = 0
      open(757) = 1
      open(28) = 2
      open(1) = 3
      open(0) = 4
      open(40123) = 5
      open(1486) = 6
      open(29) = 7
      """;

  private static void jobs(Runs runs) {
    runs.run("numbered 0, 1, .., at most 60", Runs.each(0, 59, """
        job(2, 1, 0) = {i}
        outcome({i}) = 0
        step(1) = {i}
        """), """
        count(3) = 60
        job(2, 1, 0) throws IllegalStateException
        job(0, 2, 0) throws IllegalStateException
        count(3) = 60
        outcome(59) = -2
        outcome(60) throws IndexOutOfBoundsException
        """);
    runs.run("a SCRIPT (0 for KINDS 1, 2)", """
        job(1, 1, 0) = 0
        job(1, 1, 3) = 0
        job(1, 1, 4) = 0
        job(1, 1, -1) = 0
        job(1, 1, 2147483647) = 0
        job(1, 1, -2147483648) = 0
        job(2, 1, 2147483647) = 1
        job(2, 1, 0) = 1
        count(3) = 2
        """);
    runs.run("an OUTCOME, 0 till it ENDS", """
        job(0, 1, 0) = 0
        outcome(0) = 0
        step(1) = 0
        outcome(0) = 0              # begun
        step(1) = 0
        outcome(0) = 1
        """);
  }

  private static void rows(Runs runs) {
    String four = """
        job(0, 1, 0) = 0
        job(0, 1, 1) = 1
        job(0, 1, 2) = 2
        job(1, 1, 0) = 3
        """;
    runs.run("in a row, at most 4", four, """
        job(2, 1, 0) throws IllegalStateException
        count(3) = 4
        job(2, 2, 0) = 4            # the row of another scope
        """);
    runs.run("those that ENDED are not in it", four, """
        step(1) = 0
        job(2, 1, 0) throws IllegalStateException   # begun, but in it
        step(1) = 0
        job(2, 1, 0) = 4
        job(0, 1, 0) throws IllegalStateException
        step(1) = 1
        """);
    runs.run("one that is like the last one of its row does not come, also with 4", four, """
        job(1, 1, 0) = 3
        job(1, 1, 0) = 3
        count(3) = 4
        job(0, 1, 0) throws IllegalStateException   # like the first one
        job(0, 1, 2) throws IllegalStateException   # like the last but one
        """);
    runs.run("(KIND and SCRIPT): another script", """
        job(0, 1, 0) = 0
        job(0, 1, 1) = 1
        job(0, 1, 1) = 1
        job(0, 1, 0) = 2
        """);
    runs.run("(KIND and SCRIPT): another kind", """
        job(0, 1, 0) = 0
        job(1, 1, 0) = 1
        job(2, 1, 0) = 2
        job(1, 1, 0) = 3
        job(1, 1, 0) = 3
        """);
    runs.run("and not begun", """
        job(0, 1, 0) = 0
        job(0, 1, 0) = 0
        step(1) = 0
        job(0, 1, 0) = 1            # the one before is begun
        job(0, 1, 0) = 1
        step(1) = 0
        step(1) = 1
        outcome(1) = 2
        job(0, 1, 0) = 2            # the row is empty
        """);
    runs.run("that one is told in its stead: of its own row", """
        job(1, 1, 0) = 0
        job(1, 2, 0) = 1
        job(1, 1, 0) = 0
        job(1, 2, 0) = 1
        count(3) = 2
        count(4) = 2
        """);
  }
}

/**
 * The edges that the promises 2 to 10 name, each by a run that bears the promise's number and
 * the words it tries. TermEdgesTest and StepEdgesTest have those of the Terms, and
 * RefusedCallsTest looks that a refused call changes nothing.
 */
public final class CallEdgesTest {
  private static final String ACTIVE = """
      job(0, 1, 0) = 0
      step(1) = 0
      step(1) = 0
      registration(1, 3) = 1
      """;

  public static void main(String[] args) {
    Runs runs = new Runs();
    serve(runs);
    network(runs);
    job(runs);
    jobLimits(runs);
    step(runs);
    open(runs);
    close(runs);
    claim(runs);
    claimSettles(runs);
    skip(runs);
    kept(runs);
    fetch(runs);
    runs.end();
  }

  private static void serve(Runs runs) {
    runs.run("2: s is not as said",
        Runs.each(-3, -1, "serve({i}, 0, 0, 0, 0) throws IllegalArgumentException"),
        Runs.each(0, 3, "serve({i}, 0, 0, 0, 0)"),
        Runs.each(4, 8, "serve({i}, 0, 0, 0, 0) throws IllegalArgumentException"),
        Runs.forAll(Runs.ENDS, "serve({i}, 0, 0, 0, 0) throws IllegalArgumentException"));
    runs.run("2: broad is not as said", """
        serve(0, 0, -1, 0, 0) throws IllegalArgumentException
        serve(0, 0, 0, 0, 0)
        serve(0, 0, 1, 0, 0)
        serve(0, 0, 26, 0, 0)
        serve(0, 0, 27, 0, 0) throws IllegalArgumentException
        serve(0, 0, 28, 0, 0)
        serve(0, 0, 531413, 0, 0)
        serve(0, 0, 531414, 0, 0) throws IllegalArgumentException
        serve(0, 0, 531440, 0, 0)
        serve(0, 0, 531441, 0, 0) throws IllegalArgumentException
        serve(0, 0, 531442, 0, 0) throws IllegalArgumentException
        """, Runs.forAll(Runs.ENDS, "serve(0, 0, {i}, 0, 0) throws IllegalArgumentException"));
    runs.run("2: flaw is not as said", """
        serve(0, 0, 0, -1, 0) throws IllegalArgumentException
        serve(0, 0, 0, 0, 0)
        serve(0, 0, 0, 1, 0)
        serve(0, 0, 0, 2, 0) throws IllegalArgumentException
        """, Runs.forAll(Runs.ENDS, "serve(0, 0, 0, {i}, 0) throws IllegalArgumentException"));
    runs.run("2: mode is not as said", "serve(0, 0, 0, 0, -1) throws IllegalArgumentException",
        Runs.each(0, 3, "serve(0, 0, 0, 0, {i})"),
        "serve(0, 0, 0, 0, 4) throws IllegalArgumentException",
        Runs.forAll(Runs.ENDS, "serve(0, 0, 0, 0, {i}) throws IllegalArgumentException"));
    runs.run("2: content is any int", """
        serve(0, -2147483648, 0, 0, 3)
        serve(1, 2147483647, 0, 0, 3)
        serve(2, -1, 0, 0, 3)
        """, Runs.each(0, 2, """
        job(0, {i}, {i})
        step({i})
        """), """
        worker(1, 1) = -2147483648
        worker(2, 1) = 2147483647
        worker(3, 1) = -1
        """);
    runs.run("2: SCRIPT s, and no other one", """
        serve(3, 8, 1, 1, 3)
        job(0, 2, 2) = 0            # as it was at first
        step(2) = 0
        worker(1, 1) = 0
        worker(1, 2) = 0
        step(2) = 0
        outcome(0) = 1
        job(0, 2, 3) = 1            # broad
        step(2) = 1
        outcome(1) = -1
        job(0, 1, 3) = 2
        step(1) = 2
        worker(2, 1) = 8            # content
        worker(2, 2) = 3            # mode
        step(1) = 2
        outcome(2) = -3             # flaw
        """);
  }

  private static void network(Runs runs) {
    runs.run("3: whether it was UP", """
        network(true, 0) = true
        network(false, 0) = true
        network(false, 1) = false
        network(true, 2) = false
        network(true, 3) = true
        """);
    runs.run("3: NET is net, also when it is DOWN, and any int", """
        open(0) = 0
        network(false, 2147483647)
        network(true, -2147483648)
        fetch(0, 0) = -2147483648
        network(true, 2147483647)
        fetch(0, 0) = 2147483647
        """);
  }

  private static void job(Runs runs) {
    runs.run("4: kind is not 0 to 2",
        Runs.each(-3, -1, "job({i}, 0, 0) throws IllegalArgumentException"),
        Runs.each(0, 2, "job({i}, 0, 0) = {i}"),
        Runs.each(3, 6, "job({i}, 0, 0) throws IllegalArgumentException"),
        Runs.forAll(Runs.ENDS, "job({i}, 0, 0) throws IllegalArgumentException"));
    for (int kind = 0; kind <= 2; kind++) {
      runs.run("4: scope is no PATH", """
          job({k}, -1, 0) throws IllegalArgumentException
          job({k}, 0, 0) = 0
          job({k}, 26, 0) = 1
          job({k}, 27, 0) throws IllegalArgumentException
          job({k}, 28, 0) = 2
          job({k}, 531440, 0) = 3
          job({k}, 531441, 0) throws IllegalArgumentException
          """.replace("{k}", String.valueOf(kind)));
    }
    runs.run("4: with kind 0, script is not 0 to 3",
        Runs.each(-2, -1, "job(0, 1, {i}) throws IllegalArgumentException"),
        Runs.each(0, 3, "job(0, 1, {i}) = {i}"),
        Runs.each(4, 6, "job(0, 1, {i}) throws IllegalArgumentException"),
        Runs.forAll(Runs.ENDS, "job(0, 1, {i}) throws IllegalArgumentException"));
    runs.run("4: with kinds 1 and 2 script is anything",
        Runs.each(-1, 4, "job(1, 1, {i}) = 0"),
        Runs.forAll(Runs.ENDS, "job(1, 1, {i}) = 0"),
        Runs.each(-1, 4, "job(2, 1, {i}) = 1"),
        Runs.forAll(Runs.ENDS, "job(2, 1, {i}) = 1"));
  }

  private static void jobLimits(Runs runs) {
    runs.run("4: if its row has 4", """
        job(1, 1, 0) = 0
        job(2, 1, 0) = 1
        job(1, 1, 0) = 2
        job(2, 1, 0) = 3
        job(1, 1, 0) throws IllegalStateException
        job(0, 1, 0) throws IllegalStateException
        step(1) = 0
        job(1, 1, 0) = 4
        job(2, 1, 0) throws IllegalStateException
        """);
    runs.run("4: if its row has 4 (but not if it is like the last one)", """
        job(1, 1, 0) = 0
        job(2, 1, 0) = 1
        job(1, 1, 0) = 2
        job(0, 1, 3) = 3
        job(0, 1, 3) = 3
        job(0, 1, 2) throws IllegalStateException
        job(0, 1, 4) throws IllegalArgumentException
        """);
    runs.run("4: four rows of 4, each for itself",
        Runs.each(1, 4, """
            job(0, {i}, 0)
            job(0, {i}, 1)
            job(0, {i}, 2)
            job(0, {i}, 3)
            job(0, {i}, 0) throws IllegalStateException
            """),
        "count(3) = 16");
    String fiftyNine = Runs.each(0, 58, """
        job(1, 1, 0) = {i}
        step(1) = {i}
        """);
    runs.run("4: or there were 60", fiftyNine, """
        count(4) = 0
        job(1, 1, 0) = 59
        job(1, 2, 0) throws IllegalStateException   # an empty row
        job(2, 1, 0) throws IllegalStateException
        step(1) = 59
        job(1, 1, 0) throws IllegalStateException   # its own row is empty now
        count(3) = 60
        """);
    runs.run("4: or there were 60 (but not if it is like the last one)", fiftyNine, """
        job(0, 1, 2) = 59
        job(0, 1, 2) = 59
        job(0, 1, 1) throws IllegalStateException
        step(1) = 59
        job(0, 1, 2) throws IllegalStateException   # begun
        outcome(59) = 0
        """);
    runs.run("4: there were 60, and its row has 4", Runs.each(0, 55, """
        job(1, 1, 0) = {i}
        step(1) = {i}
        """), Runs.each(0, 3, "job(0, 1, {i})"), """
        count(3) = 60
        job(0, 1, 3) = 59
        job(0, 1, 0) throws IllegalStateException
        job(3, 1, 0) throws IllegalArgumentException
        """);
  }

  private static void step(Runs runs) {
    runs.run("5: no PATH", "job(1, 0, 0)", """
        step(-1) throws IllegalArgumentException
        step(27) throws IllegalArgumentException
        step(531441) throws IllegalArgumentException
        """, Runs.forAll(Runs.ENDS, "step({i}) throws IllegalArgumentException"), "step(0) = 0");
    runs.run("5: there is no JOB in its row", """
        step(0) throws NoSuchElementException
        job(1, 1, 0) = 0
        step(0) throws NoSuchElementException
        step(28) throws NoSuchElementException
        step(1) = 0
        step(1) throws NoSuchElementException       # it ended
        """);
    runs.run("5: the number of the JOB, in both steps", """
        job(1, 2, 0) = 0
        job(0, 1, 0) = 1
        step(1) = 1
        step(1) = 1
        step(1) throws NoSuchElementException
        step(2) = 0
        """);
  }

  private static void open(Runs runs) {
    runs.run("6: the least that is not there", Runs.each(0, 7, "open(1) = {i}"), """
        close(6) = 0
        close(2) = 0
        close(4) = 0
        open(1) = 2
        open(1) = 4
        open(1) = 6
        open(1) throws IllegalStateException
        close(0) = 0
        open(1) = 0
        """);
    runs.run("6: IllegalStateException with 8", Runs.each(0, 6, "open(1) = {i}"), """
        count(2) = 7
        open(1) = 7
        count(2) = 8
        open(1) throws IllegalStateException
        open(0) throws IllegalStateException
        open(27) throws IllegalArgumentException
        count(2) = 8
        close(7) = 0
        open(0) = 7
        """);
    runs.run("6: no PATH", """
        open(-1) throws IllegalArgumentException
        open(27) throws IllegalArgumentException
        open(531441) throws IllegalArgumentException
        """, Runs.forAll(Runs.ENDS, "open({i}) throws IllegalArgumentException"), """
        count(2) = 0
        open(0) = 0
        open(26) = 1
        open(531440) = 2
        """);
    runs.run("6: or none", ACTIVE, """
        open(0) = 0                 # shorter than the scope
        open(2) = 1
        open(29) = 2
        count(10) = 0
        count(11) = 0
        count(12) = 0
        worker(1, 3) = 0
        """);
  }

  private static void close(Runs runs) {
    runs.run("7: NoSuchElementException if there is none such",
        Runs.each(-2, 9, "close({i}) throws NoSuchElementException"),
        Runs.forAll(Runs.ENDS, "close({i}) throws NoSuchElementException"),
        """
        open(1) = 0
        close(1) throws NoSuchElementException
        close(0) = 0
        close(0) throws NoSuchElementException
        """,
        Runs.each(0, 7, "open(1) = {i}"),
        """
        close(8) throws NoSuchElementException
        close(-1) throws NoSuchElementException
        close(7) = 0
        close(7) throws NoSuchElementException
        count(2) = 7
        """);
    runs.run("7: the WORKER that it was CONTROLLED by (0 for none)", """
        open(1) = 0
        """, ACTIVE, """
        open(1) = 1
        close(0) = 0
        close(1) = 1
        """);
    runs.run("7: CLEARING is tried, then, if it did not go, ACTIVATION", ACTIVE, """
        open(1) = 0
        open(1) = 1
        serve(0, 1, 0, 0, 0)
        job(1, 1, 0)
        step(1)
        step(1)
        count(5) = 7
        close(1) = 1                # one client is left: neither
        count(5) = 7
        close(0) = 1                # not leaving: activation
        trace(7) = 12
        trace(8) = 19
        count(5) = 9
        """);
    runs.run("7: for the REGISTRATION whose ACTIVE one that is, and no other", ACTIVE, """
        job(0, 2, 0)
        step(2)
        step(2)
        open(1) = 0
        open(2) = 1
        job(2, 1, 0)
        step(1)
        job(2, 2, 0)
        step(2)
        close(1) = 2
        count(0) = 1
        count(30) = 1
        close(0) = 1
        count(0) = 0
        """);
  }

  private static void claim(Runs runs) {
    runs.run("8: no PATH", """
        claim(-1) throws IllegalArgumentException
        claim(27) throws IllegalArgumentException
        claim(531441) throws IllegalArgumentException
        """, Runs.forAll(Runs.ENDS, "claim({i}) throws IllegalArgumentException"));
    runs.run("8: there is no such REGISTRATION", """
        claim(1) throws NoSuchElementException
        """, ACTIVE, """
        claim(0) throws NoSuchElementException
        claim(28) throws NoSuchElementException
        claim(531440) throws NoSuchElementException
        job(2, 1, 0)
        step(1)
        claim(1) throws NoSuchElementException      # it went
        """);
    runs.run("8: that has no ACTIVE one", """
        open(1) = 0
        job(0, 1, 0)
        step(1)
        claim(1) throws IllegalStateException
        count(10) = 0
        step(1)
        claim(1) = 1
        """);
    runs.run("8: for how many that changed something: without a CLIENT", ACTIVE, "claim(1) = 0");
    runs.run("8: for how many that changed something: all 8", Runs.each(0, 7, "open(1) = {i}"),
        ACTIVE, """
        claim(1) = 8
        worker(1, 3) = 8
        claim(1) = 0
        count(5) = 12
        """);
    runs.run("8: for how many that changed something: those that it had do not count", """
        open(1) = 0
        """, ACTIVE, """
        open(1) = 1
        open(2) = 2
        claim(1) = 1
        count(10) = 1
        count(11) = 1
        count(12) = 0
        """);
    runs.run("8: for how many that changed something: of another WORKER, and of none", """
        open(28) = 0                # of none
        job(0, 0, 0)
        step(0)
        step(0)
        open(28) = 1                # of worker 1
        job(0, 1, 0)
        step(1)
        step(1)
        open(28) = 2                # of worker 2
        open(2) = 3                 # of worker 1, and not of this scope
        count(5) = 8
        claim(1) = 2
        trace(8) = -3
        trace(9) = -67
        count(5) = 10
        count(12) = 2
        count(13) = 1
        """);
    runs.run("8: for whose PATH the REGISTRATION of this SCOPE is: not those of a longer SCOPE", """
        open(28) = 0
        open(1) = 1
        job(0, 28, 0)
        step(28)
        step(28)
        job(0, 0, 0)
        step(0)
        step(0)
        claim(0) = 1
        count(10) = 0
        count(11) = 2
        """);
    runs.run("8: for whose PATH the REGISTRATION of this SCOPE is: none if it is LEAVING", """
        open(1) = 0
        """, ACTIVE, """
        open(1) = 1
        job(2, 1, 0)
        step(1)
        claim(1) = 0
        count(10) = 0
        count(11) = 1
        """);
  }

  private static void claimSettles(Runs runs) {
    runs.run("8: CLEARING when all are claimed, not before", """
        job(0, 0, 0)
        step(0)
        step(0)
        open(1) = 0
        open(2) = 1
        open(1) = 2
        job(2, 0, 0)
        step(0)
        job(0, 1, 0)
        step(1)
        step(1)
        count(5) = 9
        claim(1) = 2
        count(0) = 2                # client 1 is left
        trace(9) = -3
        trace(10) = -131
        count(5) = 11
        close(1) = 1
        count(0) = 1
        """);
    runs.run("8: ACTIVATION when all are claimed", """
        job(0, 0, 0)
        step(0)
        step(0)
        open(1) = 0
        open(1) = 1
        serve(0, 1, 0, 0, 0)
        job(1, 0, 0)
        step(0)
        step(0)
        job(0, 1, 0)
        step(1)
        step(1)
        count(5) = 11
        claim(1) = 2
        trace(11) = -4
        trace(12) = -68
        trace(13) = 12
        trace(14) = 19
        count(5) = 15               # once, though it controlled two of them
        registration(0, 3) = 2
        """);
    runs.run("8: For each WORKER, by the CLIENTS' numbers", """
        job(0, 0, 0)
        step(0)
        step(0)
        job(0, 1, 0)
        step(1)
        step(1)
        open(28) = 0                # of worker 2
        job(2, 1, 0)
        step(1)
        open(28) = 1                # of worker 1
        serve(0, 1, 0, 0, 0)
        job(1, 0, 0)
        step(0)
        step(0)                     # worker 3 waits behind worker 1
        job(0, 28, 0)
        step(28)
        step(28)
        count(5) = 16
        claim(28) = 2
        trace(16) = -5
        trace(17) = -69
        trace(18) = 20              # of client 0: worker 2 is cleared
        trace(19) = 12              # of client 1: worker 1 makes room
        trace(20) = 27
        count(5) = 21
        count(0) = 2
        """);
  }

  private static void skip(Runs runs) {
    runs.run("9: no PATH", """
        skip(-1) throws IllegalArgumentException
        skip(27) throws IllegalArgumentException
        skip(531441) throws IllegalArgumentException
        """, Runs.forAll(Runs.ENDS, "skip({i}) throws IllegalArgumentException"));
    runs.run("9: there is no such REGISTRATION", """
        skip(1) throws NoSuchElementException
        job(0, 1, 0) = 0
        skip(1) throws NoSuchElementException       # not before its step
        step(1) = 0
        skip(0) throws NoSuchElementException
        skip(28) throws NoSuchElementException
        skip(1) = 1
        """);
    runs.run("9: IllegalStateException if it has neither", ACTIVE, """
        skip(1) throws IllegalStateException
        serve(0, 1, 0, 1, 0)
        job(1, 1, 0)
        step(1)
        skip(1) = 2                 # installing
        step(1)
        skip(1) throws IllegalStateException        # it failed
        """);
    runs.run("9: The WAITING WORKER, or, if there is none, the INSTALLING one", ACTIVE, """
        open(1) = 0
        serve(0, 1, 0, 0, 0)
        job(1, 1, 0)
        step(1)
        step(1)
        serve(0, 2, 0, 0, 0)
        job(1, 1, 0)
        step(1)
        registration(1, 1) = 3
        registration(1, 2) = 2
        skip(1) = 2
        registration(1, 3) = 2
        skip(1) = 3
        registration(1, 3) = 2      # it is still installing
        skip(1) = 3
        step(1)
        registration(1, 3) = 3
        count(10) = 3
        skip(1) throws IllegalStateException
        """);
    runs.run("9: ACTIVATION is tried, also if it is LEAVING", ACTIVE, """
        open(1) = 0
        serve(0, 1, 0, 0, 0)
        job(1, 1, 0)
        step(1)
        step(1)
        job(2, 1, 0)
        step(1)
        registration(1, 4) = 1
        skip(1) = 2
        registration(1, 2) = 0
        registration(1, 3) = 2
        registration(1, 4) = 1
        skip(1) throws IllegalStateException
        close(0) = 2
        count(0) = 0
        """);
    runs.run("9: SKIPS from now on: the WORKER, not the REGISTRATION", ACTIVE, """
        open(1) = 0
        serve(0, 1, 0, 0, 0)
        job(1, 1, 0)
        step(1)
        skip(1) = 2
        step(1)
        registration(1, 3) = 2
        serve(0, 2, 0, 0, 0)
        job(1, 1, 0)
        step(1)
        step(1)
        registration(1, 2) = 3
        registration(1, 3) = 2
        """);
  }

  private static String controlledWith(int mode) {
    return "serve(0, 77, 0, 0, " + mode + ")\n" + ACTIVE + """
        open(1) = 0
        network(true, 100)
        """;
  }

  private static void kept(Runs runs) {
    String four = Runs.each(1, 4, "fetch(0, {i})") + "network(true, 200)\n";
    runs.run("10: KEPT: the PATH comes behind all others", controlledWith(2), """
        fetch(0, 1) = 101
        fetch(0, 2) = 102
        worker(1, 10) = 1
        worker(1, 11) = 2
        worker(1, 4) = 2
        """);
    runs.run("10: KEPT: it is gone before, if it was there: the first of 4", controlledWith(2), four,
        """
        fetch(0, 1) = 201
        worker(1, 4) = 4
        worker(1, 10) = 2
        worker(1, 11) = 3
        worker(1, 12) = 4
        worker(1, 13) = 1
        worker(1, 20) = 102
        worker(1, 21) = 103
        worker(1, 22) = 104
        worker(1, 23) = 201
        """);
    runs.run("10: KEPT: it is gone before, if it was there: one between", controlledWith(2), four,
        """
        fetch(0, 3) = 203
        worker(1, 4) = 4
        worker(1, 10) = 1           # the first one stays
        worker(1, 11) = 2
        worker(1, 12) = 4
        worker(1, 13) = 3
        worker(1, 20) = 101
        worker(1, 22) = 104
        worker(1, 23) = 203
        """);
    runs.run("10: KEPT: it is gone before, if it was there: the last of 4", controlledWith(2), four,
        """
        fetch(0, 4) = 204
        worker(1, 4) = 4
        worker(1, 10) = 1
        worker(1, 11) = 2
        worker(1, 12) = 3
        worker(1, 13) = 4
        worker(1, 22) = 103
        worker(1, 23) = 204
        """);
    runs.run("10: KEPT: it is gone before, if it was there: the only one", controlledWith(2), """
        fetch(0, 0) = 100
        network(true, 200)
        fetch(0, 0) = 200
        worker(1, 4) = 1
        worker(1, 10) = 0
        worker(1, 20) = 200
        worker(1, 21) = 0
        """);
    for (int mode = 1; mode <= 2; mode++) {
      runs.run("10: KEPT: else, if there are 4, the first one is", controlledWith(mode), four, """
          fetch(0, 5) = 205
          worker(1, 4) = 4
          worker(1, 10) = 2
          worker(1, 13) = 5
          worker(1, 20) = 102
          worker(1, 23) = 205
          fetch(0, 6) = 206
          worker(1, 4) = 4
          worker(1, 10) = 3
          worker(1, 13) = 6
          """);
      runs.run("10: KEPT: with 3 none goes", controlledWith(mode), """
          fetch(0, 1)
          fetch(0, 2)
          fetch(0, 3)
          fetch(0, 4)
          worker(1, 4) = 4
          worker(1, 10) = 1
          worker(1, 13) = 4
          """);
    }
  }

  private static void fetch(Runs runs) {
    runs.run("10: no PATH", "open(0) = 0", """
        fetch(0, -1) throws IllegalArgumentException
        fetch(0, 27) throws IllegalArgumentException
        fetch(0, 531441) throws IllegalArgumentException
        """, Runs.forAll(Runs.ENDS, "fetch(0, {i}) throws IllegalArgumentException"),
        "fetch(0, 531440) = 531440");
    runs.run("10: there is no CLIENT c",
        Runs.each(-2, 9, "fetch({i}, 0) throws NoSuchElementException"),
        Runs.forAll(Runs.ENDS, "fetch({i}, 0) throws NoSuchElementException"),
        Runs.each(0, 7, """
            open(1) = {i}
            fetch({i}, 1) = 1
            """),
        """
        fetch(8, 1) throws NoSuchElementException
        fetch(-1, 1) throws NoSuchElementException
        close(3) = 0
        fetch(3, 1) throws NoSuchElementException
        fetch(3, 27) throws IllegalArgumentException    # it is no path, either
        network(false, 0)
        fetch(3, 1) throws NoSuchElementException       # and the network is down
        """);
    runs.run("10: (0 for none): MODE 0", "open(1) = 0", ACTIVE, """
        network(true, 100)
        fetch(0, 1) = 101
        network(true, 200)
        fetch(0, 1) = 201           # nothing is kept
        worker(1, 4) = 0
        """);
    runs.run("10: 0: what THE NETWORK answers", controlledWith(0), """
        fetch(0, 1) = 101
        network(true, 200)
        fetch(0, 1) = 201
        worker(1, 4) = 0
        """);
    runs.run("10: 1: the value in its CACHE, if the PATH is there, though it is UP",
        controlledWith(1), """
        fetch(0, 1) = 101
        fetch(0, 2) = 102
        network(true, 200)
        fetch(0, 1) = 101
        fetch(0, 3) = 203
        worker(1, 4) = 3
        worker(1, 10) = 1           # it is not kept again
        worker(1, 20) = 101
        """);
    runs.run("10: 2: what THE NETWORK answers, though the PATH is in the CACHE",
        controlledWith(2), """
        fetch(0, 1) = 101
        network(true, 200)
        fetch(0, 1) = 201
        worker(1, 4) = 1
        worker(1, 20) = 201
        """);
    runs.run("10: 3: its CONTENT, not what the SCRIPT has now", controlledWith(3), """
        serve(0, 78, 0, 0, 0)
        fetch(0, 1) = 77
        fetch(0, 0) = 77
        worker(1, 4) = 0
        """);
    runs.run("10: THE NETWORK is DOWN, and there is nothing else: none", """
        open(1) = 0
        network(false, 0)
        fetch(0, 1) throws UnsupportedOperationException
        """);
    runs.run("10: THE NETWORK is DOWN, and there is nothing else: mode 0", controlledWith(0), """
        fetch(0, 1) = 101
        network(false, 0)
        fetch(0, 1) throws UnsupportedOperationException
        worker(1, 4) = 0
        """);
    for (int mode = 1; mode <= 2; mode++) {
      runs.run("10: THE NETWORK is DOWN, and there is nothing else: mode " + mode,
          controlledWith(mode), """
          fetch(0, 1) = 101
          network(false, 200)
          fetch(0, 1) = 101         # there is
          fetch(0, 2) throws UnsupportedOperationException
          worker(1, 4) = 1
          worker(1, 10) = 1
          worker(1, 20) = 101
          network(true, 200)
          fetch(0, 2) = 202
          network(false, 200)
          fetch(0, 2) = 202
          worker(1, 10) = 1         # what the cache answers stays in its place
          fetch(0, 1) = 101
          worker(1, 10) = 1
          """);
    }
    runs.run("10: THE NETWORK is DOWN, and there is nothing else: mode 3", controlledWith(3), """
        network(false, 0)
        fetch(0, 1) = 77
        worker(1, 4) = 0
        """);
    runs.run("10: DOWN, and of 4 in the CACHE each is there", controlledWith(2),
        Runs.each(1, 5, "fetch(0, {i})"), "network(false, 0)", """
        fetch(0, 1) throws UnsupportedOperationException
        fetch(0, 2) = 102
        fetch(0, 3) = 103
        fetch(0, 4) = 104
        fetch(0, 5) = 105
        """);
    runs.run("10: the empty PATH is only in the CACHE when it came", controlledWith(1), """
        network(false, 0)
        fetch(0, 0) throws UnsupportedOperationException
        network(true, 100)
        fetch(0, 0) = 100
        network(false, 0)
        fetch(0, 0) = 100
        """);
  }
}

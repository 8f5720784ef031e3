/**
 * The edges that the promises 11 to 15 name: the least and the greatest what, k, w and j, those
 * just beside them, and what is answered without. A run bears the promise's number and words.
 */
public final class AskEdgesTest {
  private static final String ACTIVE = """
      job(0, 1, 0) = 0
      step(1) = 0
      step(1) = 0
      """;

  public static void main(String[] args) {
    Runs runs = new Runs();
    registration(runs);
    worker(runs);
    workerWithout(runs);
    outcome(runs);
    trace(runs);
    count(runs);
    countWithout(runs);
    runs.end();
  }

  private static void registration(Runs runs) {
    runs.run("11: or what is another one", ACTIVE,
        Runs.each(-5, -1, "registration(1, {i}) throws IllegalArgumentException"),
        Runs.each(0, 4, "registration(1, {i})"),
        Runs.each(5, 40, "registration(1, {i}) throws IllegalArgumentException"),
        Runs.forAll(Runs.ENDS, "registration(1, {i}) throws IllegalArgumentException"));
    runs.run("11: or what is another one, also without a REGISTRATION", """
        registration(1, -1) throws IllegalArgumentException
        registration(1, 0) throws NoSuchElementException
        registration(1, 4) throws NoSuchElementException
        registration(1, 5) throws IllegalArgumentException
        """);
    runs.run("11: no PATH", """
        registration(-1, 0) throws IllegalArgumentException
        registration(27, 0) throws IllegalArgumentException
        registration(27, 5) throws IllegalArgumentException
        registration(531441, 4) throws IllegalArgumentException
        """, Runs.forAll(Runs.ENDS, "registration({i}, 0) throws IllegalArgumentException"));
    runs.run("11: NoSuchElementException if there is none such", ACTIVE, """
        registration(0, 0) throws NoSuchElementException
        registration(28, 0) throws NoSuchElementException
        registration(531440, 0) throws NoSuchElementException
        job(2, 1, 0)
        registration(1, 0) = 0
        step(1)
        registration(1, 0) throws NoSuchElementException
        """);
    runs.run("11: (0 for none)", """
        job(0, 1, 3)
        step(1)
        registration(1, 0) = 3
        registration(1, 1) = 1
        registration(1, 2) = 0
        registration(1, 3) = 0
        step(1)
        registration(1, 1) = 0
        registration(1, 2) = 0
        registration(1, 3) = 1
        """);
    runs.run("11: 1 if LEAVING, else 0", ACTIVE, """
        registration(1, 4) = 0
        open(1) = 0
        job(2, 1, 0)
        registration(1, 4) = 0      # not before the step
        step(1)
        registration(1, 4) = 1
        job(0, 1, 0)
        step(1)
        registration(1, 4) = 0
        """);
  }

  private static void worker(Runs runs) {
    runs.run("12: IllegalArgumentException for another what", ACTIVE,
        Runs.each(-5, -1, "worker(1, {i}) throws IllegalArgumentException"),
        Runs.each(0, 4, "worker(1, {i})"),
        Runs.each(5, 9, "worker(1, {i}) throws IllegalArgumentException"),
        Runs.each(10, 13, "worker(1, {i})"),
        Runs.each(14, 19, "worker(1, {i}) throws IllegalArgumentException"),
        Runs.each(20, 23, "worker(1, {i})"),
        Runs.each(24, 50, "worker(1, {i}) throws IllegalArgumentException"),
        Runs.forAll(Runs.ENDS, "worker(1, {i}) throws IllegalArgumentException"));
    runs.run("12: IllegalArgumentException for another what, also without a WORKER", """
        worker(1, -1) throws IllegalArgumentException
        worker(1, 5) throws IllegalArgumentException
        worker(0, 24) throws IllegalArgumentException
        worker(1, 0) throws IndexOutOfBoundsException
        worker(0, 23) throws IndexOutOfBoundsException
        """);
    runs.run("12: IndexOutOfBoundsException if there is no such WORKER",
        Runs.each(-2, 2, "worker({i}, 0) throws IndexOutOfBoundsException"),
        ACTIVE,
        """
        worker(-1, 0) throws IndexOutOfBoundsException
        worker(0, 0) throws IndexOutOfBoundsException
        worker(1, 0) = 3
        worker(2, 0) throws IndexOutOfBoundsException
        worker(40, 0) throws IndexOutOfBoundsException
        worker(41, 0) throws IndexOutOfBoundsException
        """,
        Runs.forAll(Runs.ENDS, "worker({i}, 0) throws IndexOutOfBoundsException"));
    runs.run("12: the first, the last and one more of 40", "serve(0, 1, 0, 1, 0)",
        Runs.each(1, 40, """
            worker({i}, 0) throws IndexOutOfBoundsException
            job(0, 1, 0)
            step(1)
            worker({i}, 0) = 1
            step(1)
            worker({i}, 0) = 4
            """),
        """
        worker(0, 0) throws IndexOutOfBoundsException
        worker(1, 0) = 4
        worker(40, 23) = 0
        worker(41, 0) throws IndexOutOfBoundsException
        """);
    runs.run("12: STATE: 1 INSTALLING, 2 INSTALLED, 3 ACTIVATED, 4 REDUNDANT", ACTIVE, """
        worker(1, 0) = 3
        open(1) = 0
        serve(0, 1, 0, 0, 0)
        job(1, 1, 0)
        step(1)
        worker(2, 0) = 1
        step(1)
        worker(2, 0) = 2
        close(0) = 1
        worker(2, 0) = 3
        worker(1, 0) = 4
        """);
    runs.run("12: CLIENTS CONTROLLED by it: 0 to 8", ACTIVE,
        "open(2) = 0\nworker(1, 3) = 0\nclose(0) = 0",
        Runs.each(0, 7, "worker(1, 3) = {i}\nopen(1) = {i}"),
        """
        worker(1, 3) = 8
        close(4) = 1
        worker(1, 3) = 7
        """);
  }

  private static void workerWithout(Runs runs) {
    String controlled = "serve(0, 0, 0, 0, 1)\n" + ACTIVE + """
        open(1) = 0
        network(true, 100)
        """;
    runs.run("12: 0 without: an empty CACHE", controlled,
        Runs.each(10, 13, "worker(1, {i}) = 0"),
        Runs.each(20, 23, "worker(1, {i}) = 0"));
    runs.run("12: 0 without: just behind the last of 1, 2, 3 and 4", controlled, """
        fetch(0, 6) = 106
        worker(1, 10) = 6
        worker(1, 20) = 106
        worker(1, 11) = 0
        worker(1, 21) = 0
        fetch(0, 7) = 107
        worker(1, 11) = 7
        worker(1, 21) = 107
        worker(1, 12) = 0
        worker(1, 22) = 0
        fetch(0, 8) = 108
        worker(1, 12) = 8
        worker(1, 22) = 108
        worker(1, 13) = 0
        worker(1, 23) = 0
        fetch(0, 9) = 109
        worker(1, 13) = 9
        worker(1, 23) = 109
        worker(1, 14) throws IllegalArgumentException
        worker(1, 24) throws IllegalArgumentException
        worker(1, 4) = 4
        """);
  }

  private static void outcome(Runs runs) {
    runs.run("13: IndexOutOfBoundsException if there is none such",
        Runs.each(-2, 1, "outcome({i}) throws IndexOutOfBoundsException"),
        "job(1, 1, 0) = 0",
        """
        outcome(-1) throws IndexOutOfBoundsException
        outcome(0) = 0
        outcome(1) throws IndexOutOfBoundsException
        outcome(59) throws IndexOutOfBoundsException
        job(1, 1, 0) = 0            # none comes
        outcome(1) throws IndexOutOfBoundsException
        job(1, 1, 3) = 0
        job(2, 1, 0) = 1
        outcome(1) = 0
        outcome(2) throws IndexOutOfBoundsException
        """,
        Runs.forAll(Runs.ENDS, "outcome({i}) throws IndexOutOfBoundsException"));
    runs.run("13: the first, the last and one more of 60", Runs.each(0, 59, """
        outcome({i}) throws IndexOutOfBoundsException
        job(1, 1, 0) = {i}
        outcome({i}) = 0
        step(1) = {i}
        outcome({i}) = -2
        """), """
        outcome(-1) throws IndexOutOfBoundsException
        outcome(0) = -2
        outcome(59) = -2
        outcome(60) throws IndexOutOfBoundsException
        """);
  }

  private static void trace(Runs runs) {
    runs.run("14: IndexOutOfBoundsException if there is none",
        Runs.each(-2, 1, "trace({i}) throws IndexOutOfBoundsException"),
        "job(1, 1, 0) = 0\nstep(1) = 0",
        """
        trace(-1) throws IndexOutOfBoundsException
        trace(0) = 1000
        trace(1) throws IndexOutOfBoundsException
        trace(59) throws IndexOutOfBoundsException
        """,
        Runs.forAll(Runs.ENDS, "trace({i}) throws IndexOutOfBoundsException"));
    runs.run("14: the first 60 are kept: each of just 60 of jobs", Runs.each(0, 59, """
        job(1, 1, 0) = {i}
        trace({i}) throws IndexOutOfBoundsException
        step(1) = {i}
        """), Runs.each(0, 9, "trace({i}) = 100{i}"), Runs.each(10, 59, "trace({i}) = 10{i}"), """
        trace(-1) throws IndexOutOfBoundsException
        trace(60) throws IndexOutOfBoundsException
        count(5) = 60
        """);
    // Each failing worker is three numbers: it is made, it is redundant, its job ends.
    runs.run("14: the first 60 are kept: just 60 of 20 workers, then more", "serve(0, 1, 0, 1, 0)",
        Runs.each(1, 20, """
            job(0, 1, 0)
            step(1)
            step(1)
            """),
        """
        count(5) = 60
        trace(0) = 9
        trace(1) = 12
        trace(2) = 1000
        trace(57) = 161
        trace(58) = 164
        trace(59) = 1019
        trace(60) throws IndexOutOfBoundsException
        job(0, 1, 0) = 20
        step(1) = 20
        count(5) = 61
        trace(60) throws IndexOutOfBoundsException
        step(1) = 20
        count(5) = 63
        trace(0) = 9
        trace(57) = 161
        trace(59) = 1019
        trace(60) throws IndexOutOfBoundsException
        trace(62) throws IndexOutOfBoundsException
        """);
    runs.run("14: the first 60 are kept: one STEP goes over the edge", Runs.each(0, 56, """
        job(1, 1, 0) = {i}
        step(1) = {i}
        """), """
        job(0, 1, 0) = 57
        step(1) = 57
        count(5) = 58
        step(1) = 57                # three numbers, of which two are kept
        count(5) = 61
        trace(57) = 9
        trace(58) = 10
        trace(59) = 11
        trace(60) throws IndexOutOfBoundsException
        outcome(57) = 1
        """);
    runs.run("14: a WORKER w comes to STATE s: 8 w + s; CLIENT c: -(64 c + w) - 1",
        Runs.each(0, 7, "open(1) = {i}"), ACTIVE, """
        claim(1) = 8
        trace(0) = 9
        trace(1) = 10
        trace(2) = 11
        trace(3) = 1000
        trace(4) = -2
        trace(5) = -66
        trace(6) = -130
        trace(7) = -194
        trace(8) = -258
        trace(9) = -322
        trace(10) = -386
        trace(11) = -450
        trace(12) throws IndexOutOfBoundsException
        """);
  }

  private static void count(Runs runs) {
    String whats = Runs.each(-5, -1, "count({i}) throws IllegalArgumentException")
        + Runs.each(0, 5, "count({i})")
        + Runs.each(6, 9, "count({i}) throws IllegalArgumentException")
        + Runs.each(10, 17, "count({i})")
        + Runs.each(18, 19, "count({i}) throws IllegalArgumentException")
        + Runs.each(20, 27, "count({i})")
        + Runs.each(28, 29, "count({i}) throws IllegalArgumentException")
        + Runs.each(30, 34, "count({i})")
        + Runs.each(35, 60, "count({i}) throws IllegalArgumentException")
        + Runs.forAll(Runs.ENDS, "count({i}) throws IllegalArgumentException");
    runs.run("15: IllegalArgumentException for others: with nothing there", whats);
    runs.run("15: IllegalArgumentException for others: with all that there can be",
        Runs.each(1, 5, """
            job(0, {i}, 0)
            step({i})
            step({i})
            """),
        Runs.each(0, 7, "open(1) = {i}"),
        whats);
    runs.run("15: JOBS, and JOBS that did not END", """
        job(0, 1, 0) = 0
        job(0, 1, 0) = 0            # does not come
        count(3) = 1
        count(4) = 1
        step(1) = 0
        count(4) = 1
        step(1) = 0
        count(3) = 1
        count(4) = 0
        """);
    runs.run("15: WORKERS: those that are REDUNDANT too", "serve(0, 1, 0, 1, 0)", """
        job(0, 1, 0)
        step(1)
        count(1) = 1
        step(1)
        count(1) = 1
        count(0) = 0
        """);
    runs.run("15: numbers of THE TRACE: also those that are not kept", ACTIVE,
        Runs.each(1, 59, """
            job(1, 1, 0) = {i}
            step(1) = {i}
            """),
        """
        count(5) = 63
        trace(59) = 1056
        trace(60) throws IndexOutOfBoundsException
        """);
  }

  private static void countWithout(Runs runs) {
    runs.run("15: (0 without either): no CLIENT, or no WORKER", ACTIVE, """
        count(10) = 0               # no client
        count(17) = 0
        open(2) = 0
        count(10) = 0               # no worker
        open(1) = 1
        count(11) = 1
        close(1) = 1
        count(11) = 0
        """);
    runs.run("15: its PATH (-1 without it)", """
        count(20) = -1
        count(27) = -1
        open(0) = 0
        count(20) = 0               # the empty path
        count(21) = -1
        open(531440) = 1
        count(21) = 531440
        close(0) = 0
        count(20) = -1
        count(21) = 531440
        """);
    runs.run("15: CLIENT 7, the greatest", ACTIVE, Runs.each(0, 6, "open(2) = {i}"), """
        count(17) = 0
        count(27) = -1
        open(28) = 7
        count(17) = 1
        count(27) = 28
        """);
    runs.run("15: the k-th REGISTRATION as they were made (-1 without; k 0 to 4)",
        Runs.each(30, 34, "count({i}) = -1"),
        """
        job(0, 5, 0)
        step(5)
        count(30) = 5
        count(31) = -1
        job(0, 0, 0)
        step(0)
        count(31) = 0               # the empty scope
        count(32) = -1
        job(0, 3, 0)
        step(3)
        count(32) = 3
        count(33) = -1
        job(0, 2, 0)
        step(2)
        count(33) = 2
        count(34) = -1
        job(0, 531440, 0)
        step(531440)
        count(34) = 531440
        count(35) throws IllegalArgumentException
        count(29) throws IllegalArgumentException
        """);
    runs.run("15: as they were made: when the first, one between and the last go",
        Runs.each(1, 5, """
            job(0, {i}, 0)
            step({i})
            step({i})
            """),
        """
        job(2, 1, 0)
        step(1)
        count(30) = 2
        count(33) = 5
        count(34) = -1
        job(2, 3, 0)
        step(3)
        count(30) = 2
        count(31) = 4
        count(32) = 5
        count(33) = -1
        job(2, 5, 0)
        step(5)
        count(30) = 2
        count(31) = 4
        count(32) = -1
        """);
  }
}

/**
 * The edges of a STEP: each OUTCOME just where it is due and just where it is not, which goes
 * before which, and when ACTIVATION and CLEARING do nothing. A run bears the words it tries.
 */
public final class StepEdgesTest {
  private static final String ACTIVE = """
      job(0, 1, 0) = 0
      step(1) = 0
      step(1) = 0
      outcome(0) = 1
      """;

  /** Worker 1 is active with client 0, and its registration is leaving; 2 jobs. */
  private static final String LEAVING = ACTIVE + """
      open(1) = 0
      job(2, 1, 0) = 1
      step(1) = 1
      registration(1, 4) = 1
      """;

  /** Worker 1 is active with client 0, worker 2 waits; contents 0 and 1; 2 jobs. */
  private static final String WAITING = ACTIVE + """
      open(1) = 0
      serve(0, 1, 0, 0, 0)
      job(1, 1, 0) = 1
      step(1) = 1
      step(1) = 1
      registration(1, 2) = 2
      registration(1, 3) = 1
      """;

  /** 39 workers that failed, then the fortieth is active in scope 1 with content 2; 40 jobs. */
  private static final String FORTY_WORKERS = "serve(0, 1, 0, 1, 0)\n" + Runs.each(1, 39, """
      job(0, 1, 0)
      step(1)
      step(1)
      """) + """
      serve(0, 2, 0, 0, 0)
      job(0, 1, 0) = 39
      step(1) = 39
      step(1) = 39
      count(1) = 40
      """;

  private static final String FIVE_REGISTRATIONS = Runs.each(1, 5, """
      job(0, {i}, 0)
      step({i})
      step({i})
      """) + "count(0) = 5\n";

  public static void main(String[] args) {
    Runs runs = new Runs();
    begun(runs);
    outOfBroad(runs);
    networkDown(runs);
    noRoom(runs);
    unchanged(runs);
    notRegistered(runs);
    flawed(runs);
    installed(runs);
    leaving(runs);
    activation(runs);
    clearing(runs);
    trace(runs);
    runs.end();
  }

  private static void begun(Runs runs) {
    runs.run("one of the first JOB of its row, which is begun then", """
        job(0, 1, 0) = 0
        job(1, 1, 0) = 1
        job(2, 1, 0) = 2
        job(2, 2, 0) = 3
        step(1) = 0
        step(1) = 0
        step(1) = 1                 # 2: ends with its first step
        step(1) = 2
        step(1) throws NoSuchElementException
        outcome(0) = 1
        outcome(1) = 2
        outcome(2) = 1
        outcome(3) = 0              # in another row
        """);
    runs.run("another STEP is not refused by what refuses the first one", """
        job(0, 1, 0) = 0
        step(1) = 0
        serve(0, 0, 2, 0, 0)        # not broad enough any more
        network(false, 0)
        step(1) = 0
        outcome(0) = 1
        """);
  }

  private static void outOfBroad(Runs runs) {
    // 28 is the letters 1, 1; 757 is 1, 1, 1; 29 is 2, 1.
    runs.run("-1 if the BROAD of its SCRIPT does not BEGIN its SCOPE: longer, or another", """
        serve(0, 0, 28, 0, 0)
        job(0, 1, 0) = 0
        step(1) = 0
        outcome(0) = -1
        job(0, 0, 0) = 1
        step(0) = 1
        outcome(1) = -1
        job(0, 29, 0) = 2
        step(29) = 2
        outcome(2) = -1
        count(0) = 0
        count(1) = 0
        count(5) = 3
        """);
    runs.run("-1 not if it is the SCOPE, or begins it, or is empty", """
        serve(0, 0, 28, 0, 0)
        job(0, 28, 0) = 0
        step(28) = 0
        outcome(0) = 0
        job(0, 757, 0) = 1
        step(757) = 1
        outcome(1) = 0
        serve(0, 0, 0, 0, 0)
        job(0, 0, 0) = 2
        step(0) = 2
        outcome(2) = 0
        """);
    runs.run("-1 by the SCRIPT of the JOB, not that of the REGISTRATION", ACTIVE, """
        serve(1, 5, 2, 0, 0)
        job(0, 1, 1) = 1
        step(1) = 1
        outcome(1) = -1
        registration(1, 0) = 0
        serve(0, 5, 2, 0, 0)
        serve(1, 5, 1, 0, 0)
        job(0, 1, 1) = 2
        step(1) = 2
        outcome(2) = 0
        registration(1, 0) = 1
        """);
    runs.run("-1 before -4", """
        serve(0, 0, 2, 0, 0)
        network(false, 0)
        job(0, 1, 0) = 0
        step(1) = 0
        outcome(0) = -1
        """);
    runs.run("-1 before -5 for 5 others", FIVE_REGISTRATIONS, """
        serve(0, 0, 2, 0, 0)
        job(0, 6, 0) = 5
        step(6) = 5
        outcome(5) = -1
        """);
    runs.run("-1 before -5 for 40 WORKERS, and before 2", FORTY_WORKERS, """
        serve(0, 2, 2, 0, 0)
        job(0, 1, 0) = 40
        step(1) = 40
        outcome(40) = -1
        """);
    runs.run("-1 before 2", ACTIVE, """
        serve(0, 0, 2, 0, 0)
        job(0, 1, 0) = 1
        step(1) = 1
        outcome(1) = -1
        """);
    runs.run("-1 leaves it LEAVING", LEAVING, """
        serve(0, 0, 2, 0, 0)
        job(0, 1, 0) = 2
        step(1) = 2
        outcome(2) = -1
        registration(1, 4) = 1
        """);
  }

  private static void networkDown(Runs runs) {
    runs.run("REGISTER: -4 if the NETWORK is DOWN", """
        network(false, 0)
        job(0, 1, 0) = 0
        step(1) = 0
        outcome(0) = -4
        count(0) = 0
        count(1) = 0
        count(5) = 1
        network(true, 0)
        job(0, 1, 0) = 1
        step(1) = 1
        outcome(1) = 0
        """);
    runs.run("REGISTER: -4 when it is DOWN at the step, not when the JOB comes", """
        network(false, 0)
        job(0, 1, 0) = 0
        network(true, 0)
        job(0, 2, 0) = 1
        step(1) = 0
        outcome(0) = 0
        network(false, 0)
        step(2) = 1
        outcome(1) = -4
        """);
    runs.run("REGISTER: -4 before -5 for 5 others", FIVE_REGISTRATIONS, """
        network(false, 0)
        job(0, 6, 0) = 5
        step(6) = 5
        outcome(5) = -4
        """);
    runs.run("REGISTER and UPDATE: -4 before -5 for 40 WORKERS, and before 2", FORTY_WORKERS, """
        network(false, 0)
        job(0, 1, 0) = 40
        step(1) = 40
        outcome(40) = -4
        job(1, 1, 0) = 41
        step(1) = 41
        outcome(41) = -4
        """);
    runs.run("REGISTER and UPDATE: -4 before 2", ACTIVE, """
        network(false, 0)
        job(0, 1, 0) = 1
        step(1) = 1
        outcome(1) = -4
        job(1, 1, 0) = 2
        step(1) = 2
        outcome(2) = -4
        """);
    runs.run("REGISTER: -4 leaves it LEAVING, with its SCRIPT", LEAVING, """
        network(false, 0)
        job(0, 1, 1) = 2
        step(1) = 2
        outcome(2) = -4
        registration(1, 4) = 1
        registration(1, 0) = 0
        """);
    runs.run("UPDATE: -4 with another content", ACTIVE, """
        serve(0, 1, 0, 0, 0)
        network(false, 0)
        job(1, 1, 0) = 1
        step(1) = 1
        outcome(1) = -4
        count(1) = 1
        """);
    runs.run("UNREGISTER: no -4", ACTIVE, """
        network(false, 0)
        job(2, 1, 0) = 1
        step(1) = 1
        outcome(1) = 1
        count(0) = 0
        """);
  }

  private static void noRoom(Runs runs) {
    runs.run("-5 if there is no REGISTRATION of the SCOPE, and 5 others", FIVE_REGISTRATIONS, """
        job(0, 6, 0) = 5
        step(6) = 5
        outcome(5) = -5
        count(0) = 5
        count(1) = 5
        count(35) throws IllegalArgumentException
        """);
    runs.run("-5 not with 4 others", Runs.each(1, 4, """
        job(0, {i}, 0)
        step({i})
        step({i})
        """), """
        count(0) = 4
        job(0, 5, 0) = 4
        step(5) = 4
        outcome(4) = 0
        count(0) = 5
        """);
    runs.run("-5 not for one of the 5", FIVE_REGISTRATIONS, """
        job(0, 5, 0) = 5
        step(5) = 5
        outcome(5) = 2
        job(0, 5, 1) = 6
        step(5) = 6
        outcome(6) = 0
        step(5) = 6
        outcome(6) = 1
        """);
    runs.run("-5 or 40 WORKERS: without a REGISTRATION", FORTY_WORKERS, """
        job(0, 2, 0) = 40
        step(2) = 40
        outcome(40) = -5
        count(0) = 1
        """);
    runs.run("-5 or 40 WORKERS: with a REGISTRATION, and another SCRIPT or CONTENT", FORTY_WORKERS, """
        job(0, 1, 1) = 40
        step(1) = 40
        outcome(40) = -5
        registration(1, 0) = 0      # it keeps its script
        serve(0, 3, 0, 0, 0)
        job(0, 1, 0) = 41
        step(1) = 41
        outcome(41) = -5
        registration(1, 1) = 0
        count(1) = 40
        """);
    runs.run("-5 or 40 WORKERS: before 2", FORTY_WORKERS, """
        job(0, 1, 0) = 40
        step(1) = 40
        outcome(40) = -5
        """);
    runs.run("-5 leaves it LEAVING", FORTY_WORKERS, """
        open(1) = 0
        job(2, 1, 0) = 40
        step(1) = 40
        registration(1, 4) = 1
        job(0, 1, 0) = 41
        step(1) = 41
        outcome(41) = -5
        registration(1, 4) = 1
        """);
    runs.run("UPDATE: -5 with 40 WORKERS, and before 2", FORTY_WORKERS, """
        job(1, 1, 0) = 40
        step(1) = 40
        outcome(40) = -5            # the content is the same
        serve(0, 3, 0, 0, 0)
        job(1, 1, 0) = 41
        step(1) = 41
        outcome(41) = -5
        count(1) = 40
        """);
    runs.run("UPDATE: no -5 with 39 WORKERS", "serve(0, 1, 0, 1, 0)", Runs.each(1, 38, """
        job(0, 1, 0)
        step(1)
        step(1)
        """), """
        serve(0, 2, 0, 0, 0)
        job(0, 1, 0) = 38
        step(1) = 38
        step(1) = 38
        count(1) = 39
        job(1, 1, 0) = 39
        step(1) = 39
        outcome(39) = 2
        serve(0, 3, 0, 0, 0)
        job(1, 1, 0) = 40
        step(1) = 40
        outcome(40) = 0
        count(1) = 40
        step(1) = 40
        outcome(40) = 1
        """);
    runs.run("UPDATE: no -5 for 5 REGISTRATIONS", FIVE_REGISTRATIONS, """
        serve(0, 1, 0, 0, 0)
        job(1, 5, 0) = 5
        step(5) = 5
        step(5) = 5
        outcome(5) = 1
        """);
    runs.run("UNREGISTER: no -5", FORTY_WORKERS, """
        job(2, 1, 0) = 40
        step(1) = 40
        outcome(40) = 1
        """);
  }

  private static void unchanged(Runs runs) {
    runs.run("if it has this SCRIPT and a NEWEST with the CONTENT that this has: 2", ACTIVE, """
        job(0, 1, 0) = 1
        step(1) = 1
        outcome(1) = 2
        count(1) = 1
        count(5) = 5
        trace(4) = 1001
        """);
    runs.run("2 not with another SCRIPT, though the CONTENT is the same", ACTIVE, """
        job(0, 1, 3) = 1
        step(1) = 1
        outcome(1) = 0
        registration(1, 0) = 3
        """);
    runs.run("2 not with another CONTENT, though only by one", ACTIVE, """
        serve(0, 1, 0, 0, 0)
        job(0, 1, 0) = 1
        step(1) = 1
        outcome(1) = 0
        """);
    runs.run("2 not with the least CONTENT against the greatest", """
        serve(0, 2147483647, 0, 0, 0)
        job(0, 1, 0) = 0
        step(1) = 0
        step(1) = 0
        serve(0, -2147483648, 0, 0, 0)
        job(1, 1, 0) = 1
        step(1) = 1
        outcome(1) = 0
        worker(2, 1) = -2147483648
        """);
    runs.run("2, whatever BROAD, FLAW and MODE are now", ACTIVE, """
        serve(0, 0, 1, 1, 3)
        job(0, 1, 0) = 1
        step(1) = 1
        outcome(1) = 2
        job(1, 1, 0) = 2
        step(1) = 2
        outcome(2) = 2
        worker(1, 2) = 0
        """);
    runs.run("2 not without a NEWEST: the first REGISTER of a SCOPE", """
        job(0, 1, 0) = 0            # script 0 and content 0, as of a new registration
        step(1) = 0
        outcome(0) = 0
        count(1) = 1
        """);
    runs.run("NEWEST is its WAITING before its ACTIVE one: 2 for the content of the first", WAITING, """
        job(0, 1, 0) = 2
        step(1) = 2
        outcome(2) = 2
        job(1, 1, 0) = 3
        step(1) = 3
        outcome(3) = 2
        registration(1, 2) = 2
        """);
    runs.run("NEWEST is its WAITING before its ACTIVE one: no 2 for that of the other", WAITING, """
        serve(0, 0, 0, 0, 0)
        job(1, 1, 0) = 2
        step(1) = 2
        outcome(2) = 0
        registration(1, 1) = 3
        """);
    runs.run("UPDATE: 2, likewise for its SCRIPT", """
        serve(2, 5, 0, 0, 0)
        job(0, 1, 2) = 0
        step(1) = 0
        step(1) = 0
        serve(0, 9, 0, 0, 0)        # not its script
        job(1, 1, 0) = 1
        step(1) = 1
        outcome(1) = 2
        serve(2, 6, 0, 0, 0)
        job(1, 1, 0) = 2
        step(1) = 2
        outcome(2) = 0
        worker(2, 1) = 6
        """);
  }

  private static void notRegistered(Runs runs) {
    runs.run("UPDATE: -2 if there is no REGISTRATION of the SCOPE", ACTIVE, """
        job(1, 0, 0) = 1            # a scope that begins one
        step(0) = 1
        outcome(1) = -2
        job(1, 28, 0) = 2           # a scope that one begins
        step(28) = 2
        outcome(2) = -2
        count(0) = 1
        count(1) = 1
        """);
    runs.run("UPDATE: -2 if it is LEAVING", LEAVING, """
        serve(0, 1, 0, 0, 0)
        job(1, 1, 0) = 2
        step(1) = 2
        outcome(2) = -2
        registration(1, 4) = 1
        count(1) = 1
        """);
    runs.run("UPDATE: -2 before -4", """
        network(false, 0)
        job(1, 1, 0) = 0
        step(1) = 0
        outcome(0) = -2
        """);
    runs.run("UPDATE: -2 before -4, LEAVING", LEAVING, """
        network(false, 0)
        job(1, 1, 0) = 2
        step(1) = 2
        outcome(2) = -2
        """);
    runs.run("UPDATE: -2 before -5", FORTY_WORKERS, """
        job(1, 2, 0) = 40
        step(2) = 40
        outcome(40) = -2
        """);
    runs.run("UPDATE: -2 when it went between the JOB and its step", """
        serve(0, 0, 0, 1, 0)
        job(0, 1, 0) = 0
        job(1, 1, 0) = 1
        step(1) = 0
        step(1) = 0
        outcome(0) = -3
        step(1) = 1
        outcome(1) = -2
        """);
    runs.run("UNREGISTER: -2 as for UPDATE: none", """
        job(2, 1, 0) = 0
        step(1) = 0
        outcome(0) = -2
        count(5) = 1
        """);
    runs.run("UNREGISTER: -2 as for UPDATE: it is LEAVING", LEAVING, """
        job(2, 1, 0) = 2
        step(1) = 2
        outcome(2) = -2
        registration(1, 4) = 1
        """);
  }

  private static void flawed(Runs runs) {
    runs.run("with FLAW 1 the INSTALLING WORKER becomes REDUNDANT, and there is none", ACTIVE, """
        serve(0, 1, 0, 1, 0)
        job(1, 1, 0) = 1
        step(1) = 1
        registration(1, 1) = 2
        outcome(1) = 0
        step(1) = 1
        outcome(1) = -3
        worker(2, 0) = 4
        registration(1, 1) = 0
        registration(1, 2) = 0
        registration(1, 3) = 1
        count(0) = 1
        """);
    runs.run("a REGISTRATION with no WORKER at all goes", """
        serve(0, 1, 0, 1, 0)
        job(0, 1, 0) = 0
        step(1) = 0
        count(0) = 1
        step(1) = 0
        outcome(0) = -3
        count(0) = 0
        count(30) = -1
        registration(1, 0) throws NoSuchElementException
        """);
    runs.run("a REGISTRATION with a WAITING one stays, and that one goes on waiting", WAITING, """
        serve(0, 2, 0, 1, 0)
        job(1, 1, 0) = 2
        step(1) = 2
        step(1) = 2
        outcome(2) = -3
        worker(3, 0) = 4
        worker(2, 0) = 2
        registration(1, 2) = 2
        registration(1, 3) = 1
        """);
    runs.run("one that SKIPS fails with a FLAW all the same", ACTIVE, """
        serve(0, 1, 0, 1, 0)
        job(1, 1, 0) = 1
        step(1) = 1
        skip(1) = 2
        step(1) = 1
        outcome(1) = -3
        registration(1, 3) = 1
        """);
    runs.run("one that went is made anew behind the others", """
        serve(1, 1, 0, 1, 0)
        job(0, 1, 1) = 0
        job(0, 2, 0) = 1
        step(1) = 0
        step(2) = 1
        count(30) = 1
        count(31) = 2
        step(1) = 0
        count(30) = 2
        count(31) = -1
        job(0, 1, 0) = 2
        step(1) = 2
        count(30) = 2
        count(31) = 1
        """);
  }

  private static void installed(Runs runs) {
    runs.run("it becomes the WAITING one, INSTALLED; it ENDS with 1", WAITING, """
        outcome(1) = 1
        worker(2, 0) = 2
        registration(1, 1) = 0
        """);
    runs.run("but first the one that was is REDUNDANT", WAITING, """
        count(5) = 7
        serve(0, 2, 0, 0, 0)
        job(1, 1, 0) = 2
        step(1) = 2
        worker(2, 0) = 2            # not before the next one has installed
        step(1) = 2
        worker(2, 0) = 4
        worker(3, 0) = 2
        registration(1, 2) = 3
        trace(7) = 25
        trace(8) = 20
        trace(9) = 26
        trace(10) = 1002
        count(5) = 11
        """);
  }

  private static void leaving(Runs runs) {
    runs.run("Else that is not LEAVING any more: with 2", LEAVING, """
        job(0, 1, 0) = 2
        step(1) = 2
        outcome(2) = 2
        registration(1, 4) = 0
        close(0) = 1
        count(0) = 1                # so it is not cleared
        worker(1, 0) = 3
        """);
    runs.run("Else that is not LEAVING any more: with a new WORKER", LEAVING, """
        job(0, 1, 1) = 2
        step(1) = 2
        registration(1, 4) = 0
        registration(1, 0) = 1
        close(0) = 1
        count(0) = 1
        step(1) = 2
        registration(1, 3) = 2
        """);
    runs.run("and can be LEAVING again", LEAVING, """
        job(0, 1, 0) = 2
        step(1) = 2
        job(2, 1, 0) = 3
        step(1) = 3
        outcome(3) = 1
        registration(1, 4) = 1
        close(0) = 1
        count(0) = 0
        """);
  }

  private static void activation(Runs runs) {
    runs.run("ACTIVATION: no ACTIVE one, though there are CLIENTS of its SCOPE", """
        open(1) = 0
        job(0, 1, 0) = 0
        step(1) = 0
        step(1) = 0
        registration(1, 3) = 1
        count(10) = 0               # of no one before, so of no one now
        """);
    runs.run("ACTIVATION: not with one CLIENT of the ACTIVE one", WAITING, """
        worker(1, 3) = 1
        worker(1, 0) = 3
        """);
    runs.run("ACTIVATION: with none, though others have CLIENTS", """
        job(0, 0, 0)
        step(0)
        step(0)
        open(1) = 0
        job(0, 1, 0)
        step(1)
        step(1)
        count(10) = 1
        serve(0, 1, 0, 0, 0)
        job(1, 1, 0)
        step(1)
        step(1)
        registration(1, 3) = 3      # the client of scope 1 is controlled by worker 1
        registration(1, 2) = 0
        """);
    runs.run("ACTIVATION: the WAITING one SKIPS, with all 8 CLIENTS, by their numbers", ACTIVE,
        Runs.each(0, 7, "open(1) = {i}"),
        """
        serve(0, 1, 0, 0, 0)
        job(1, 1, 0) = 1
        step(1) = 1
        step(1) = 1
        count(5) = 7
        skip(1) = 2
        worker(1, 3) = 0
        worker(2, 3) = 8
        trace(7) = 12
        trace(8) = 19
        trace(9) = -3
        trace(10) = -67
        trace(11) = -131
        trace(12) = -195
        trace(13) = -259
        trace(14) = -323
        trace(15) = -387
        trace(16) = -451
        trace(17) throws IndexOutOfBoundsException
        """);
    runs.run("ACTIVATION: none WAITING, and it goes on", ACTIVE, """
        open(1) = 0
        close(0) = 1
        registration(1, 3) = 1
        worker(1, 0) = 3
        count(5) = 4
        """);
  }

  private static void clearing(Runs runs) {
    runs.run("CLEARING: at once without a CLIENT", ACTIVE, """
        job(2, 1, 0) = 1
        step(1) = 1
        outcome(1) = 1
        count(0) = 0
        worker(1, 0) = 4
        """);
    runs.run("CLEARING: though CLIENTS of its SCOPE are there that it does not control", """
        open(1) = 0
        job(0, 1, 0)
        step(1)
        step(1)
        job(2, 1, 0)
        step(1)
        count(0) = 0
        count(2) = 1
        """);
    runs.run("CLEARING: not with one CLIENT, and with the last one's close", LEAVING, """
        open(2) = 1
        close(1) = 0
        count(0) = 1
        close(0) = 1
        count(0) = 0
        worker(1, 0) = 4
        """);
    runs.run("CLEARING: only if it is LEAVING", ACTIVE, """
        open(1) = 0
        close(0) = 1
        count(0) = 1
        """);
    runs.run("CLEARING: its WAITING, then its ACTIVE one", WAITING, """
        job(2, 1, 0) = 2
        step(1) = 2
        count(5) = 8
        close(0) = 1
        trace(8) = 20
        trace(9) = 12
        count(5) = 10
        count(0) = 0
        """);
  }

  private static void trace(Runs runs) {
    runs.run("JOB j ENDS: 1000 + j, behind all else in its STEP", WAITING, """
        serve(0, 2, 0, 0, 0)
        job(1, 1, 0) = 2
        step(1) = 2
        skip(1) = 2
        skip(1) = 3
        count(5) = 11
        step(1) = 2
        trace(11) = 26              # installed
        trace(12) = 20              # the active one is redundant
        trace(13) = 27              # activated
        trace(14) = -4              # its client
        trace(15) = 1002
        count(5) = 16
        """);
    runs.run("JOB j ENDS: behind CLEARING, too", ACTIVE, """
        job(2, 1, 0) = 1
        step(1) = 1
        trace(4) = 12
        trace(5) = 1001
        count(5) = 6
        """);
    runs.run("A WORKER that is made comes to STATE 1", """
        job(0, 1, 0) = 0
        count(5) = 0
        step(1) = 0
        count(5) = 1
        trace(0) = 9
        """);
    runs.run("but not when it is opened", ACTIVE, """
        open(1) = 0
        count(10) = 1
        count(5) = 4
        close(0) = 1                # nor when it is closed
        count(5) = 4
        """);
    runs.run("by another WORKER w than before: not by the same one", ACTIVE, """
        open(1) = 0
        claim(1) = 0
        count(5) = 4
        """);
  }
}

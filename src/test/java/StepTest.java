/** Promise 5: step, and with it what the terms say of STEP, ACTIVATION and CLEARING. */
public final class StepTest {
  private static final String FIVE_REGISTRATIONS = Runs.each(0, 4, """
      job(0, {i}, 0) = {i}
      step({i}) = {i}
      step({i}) = {i}
      outcome({i}) = 1
      """);

  /** Leaves 40 workers, the last one active with content 39, and 20 jobs. */
  private static final String FORTY_WORKERS = """
      job(0, 1, 0) = 0
      step(1) = 0
      step(1) = 0
      """ + Runs.each(1, 39, """
      serve(0, {i}, 0, 0, 0)
      job(1, 1, 0) = {i}
      step(1) = {i}
      step(1) = {i}
      """) + "count(1) = 40\n";

  public static void main(String[] args) {
    Runs runs = new Runs();
    registers(runs);
    updates(runs);
    unregisters(runs);
    limits(runs);
    waits(runs);
    fails(runs);
    rows(runs);
    runs.end();
  }

  private static void registers(Runs runs) {
    runs.run("register makes a registration, then a worker that becomes active", """
        serve(2, 5, 0, 0, 1)
        job(0, 28, 2) = 0
        step(28) = 0
        outcome(0) = 0
        count(0) = 1
        registration(28, 0) = 2
        registration(28, 1) = 1
        registration(28, 2) = 0
        registration(28, 3) = 0
        registration(28, 4) = 0
        worker(1, 0) = 1
        step(28) = 0
        outcome(0) = 1
        registration(28, 1) = 0
        registration(28, 2) = 0
        registration(28, 3) = 1
        worker(1, 0) = 3
        step(28) throws NoSuchElementException
        trace(0) = 9
        trace(1) = 10
        trace(2) = 11
        trace(3) = 1000
        count(5) = 4
        """);
    runs.run("register again: 2 only with this script and this content", """
        serve(1, 5, 0, 0, 0)
        job(0, 1, 1) = 0
        step(1) = 0
        step(1) = 0
        job(0, 1, 1) = 1
        step(1) = 1
        outcome(1) = 2
        count(1) = 1
        serve(2, 5, 0, 0, 0)
        job(0, 1, 2) = 2           # another script with the same content
        step(1) = 2
        outcome(2) = 0
        registration(1, 0) = 2
        registration(1, 1) = 2
        step(1) = 2
        outcome(2) = 1
        serve(2, 6, 0, 0, 0)
        job(0, 1, 2) = 3           # the same script with another content
        step(1) = 3
        outcome(3) = 0
        registration(1, 1) = 3
        """);
    runs.run("-1 goes before -4 and changes nothing", """
        serve(0, 0, 28, 0, 0)
        network(false, 0) = true
        job(0, 1, 0) = 0
        step(1) = 0
        outcome(0) = -1
        count(0) = 0
        count(1) = 0
        count(5) = 1
        trace(0) = 1000
        job(0, 28, 0) = 1
        step(28) = 1
        outcome(1) = -4
        count(0) = 0
        network(true, 0) = false
        job(0, 757, 0) = 2
        step(757) = 2
        outcome(2) = 0
        """);
    runs.run("the network is only asked at the first step", """
        job(0, 1, 0) = 0
        step(1) = 0
        network(false, 0) = true
        step(1) = 0
        outcome(0) = 1
        """);
  }

  private static void updates(Runs runs) {
    runs.run("update: -2, -4, 2, 1", """
        network(false, 0) = true
        job(1, 1, 0) = 0
        step(1) = 0
        outcome(0) = -2            # before -4
        network(true, 0) = false
        serve(3, 5, 0, 0, 0)
        job(0, 1, 3) = 1
        step(1) = 1
        step(1) = 1
        network(false, 0) = true
        job(1, 1, 0) = 2
        step(1) = 2
        outcome(2) = -4            # before 2
        network(true, 0) = false
        job(1, 1, 0) = 3
        step(1) = 3
        outcome(3) = 2
        serve(3, 6, 0, 0, 2)
        job(1, 1, 0) = 4
        step(1) = 4
        outcome(4) = 0
        worker(2, 1) = 6           # of the registration's own script
        worker(2, 2) = 2
        registration(1, 0) = 3
        step(1) = 4
        outcome(4) = 1
        registration(1, 3) = 2
        worker(1, 0) = 4
        """);
    runs.run("update does not ask for broad", """
        job(0, 1, 0) = 0
        step(1) = 0
        step(1) = 0
        serve(0, 1, 2, 0, 0)
        job(1, 1, 0) = 1
        step(1) = 1
        step(1) = 1
        outcome(1) = 1
        job(0, 1, 0) = 2
        step(1) = 2
        outcome(2) = -1
        """);
    runs.run("update of one that is leaving", """
        job(0, 1, 0) = 0
        step(1) = 0
        step(1) = 0
        open(1) = 0
        job(2, 1, 0) = 1
        step(1) = 1
        serve(0, 9, 0, 0, 0)
        job(1, 1, 0) = 2
        step(1) = 2
        outcome(2) = -2
        registration(1, 4) = 1
        count(1) = 1
        """);
  }

  private static void unregisters(Runs runs) {
    runs.run("unregister: -2, and 1 at once even with the network down", """
        job(2, 1, 0) = 0
        step(1) = 0
        outcome(0) = -2
        job(0, 1, 0) = 1
        step(1) = 1
        step(1) = 1
        network(false, 0) = true
        job(2, 1, 0) = 2
        step(1) = 2
        outcome(2) = 1
        count(0) = 0
        worker(1, 0) = 4
        trace(4) = 1001
        trace(5) = 12
        trace(6) = 1002
        count(5) = 7
        """);
    runs.run("one with a controlled client leaves and is cleared later", """
        job(0, 1, 0) = 0
        step(1) = 0
        step(1) = 0
        open(1) = 0
        job(2, 1, 0) = 1
        step(1) = 1
        outcome(1) = 1
        registration(1, 4) = 1
        registration(1, 3) = 1
        job(2, 1, 0) = 2
        step(1) = 2
        outcome(2) = -2
        open(1) = 1
        count(11) = 0              # one that is leaving takes no more clients
        close(0) = 1
        count(0) = 0
        worker(1, 0) = 4
        """);
    runs.run("the waiting one becomes redundant before the active one", """
        job(0, 1, 0) = 0
        step(1) = 0
        step(1) = 0
        open(1) = 0
        serve(0, 1, 0, 0, 0)
        job(1, 1, 0) = 1
        step(1) = 1
        step(1) = 1
        job(2, 1, 0) = 2
        step(1) = 2
        count(5) = 8
        close(0) = 1
        trace(7) = 1002
        trace(8) = 20
        trace(9) = 12
        count(5) = 10
        count(0) = 0
        """);
    runs.run("register takes a leaving one back", """
        job(0, 1, 0) = 0
        step(1) = 0
        step(1) = 0
        open(1) = 0
        job(2, 1, 0) = 1
        step(1) = 1
        network(false, 0) = true
        job(0, 1, 0) = 2
        step(1) = 2
        outcome(2) = -4
        registration(1, 4) = 1     # not with -4
        network(true, 0) = false
        job(0, 1, 0) = 3
        step(1) = 3
        outcome(3) = 2
        registration(1, 4) = 0
        count(1) = 1
        job(2, 1, 0) = 4
        step(1) = 4
        job(0, 1, 1) = 5
        step(1) = 5
        registration(1, 4) = 0
        registration(1, 1) = 2
        registration(1, 3) = 1
        close(0) = 1
        registration(1, 3) = 1
        """);
  }

  private static void limits(Runs runs) {
    runs.run("five registrations", FIVE_REGISTRATIONS, """
        network(false, 0) = true
        job(0, 5, 0) = 5
        step(5) = 5
        outcome(5) = -4            # before -5
        network(true, 0) = false
        job(0, 5, 0) = 6
        step(5) = 6
        outcome(6) = -5
        count(0) = 5
        count(1) = 5
        serve(0, 1, 0, 0, 0)
        job(0, 3, 0) = 7           # one of the five
        step(3) = 7
        step(3) = 7
        outcome(7) = 1
        job(2, 1, 0) = 8
        step(1) = 8
        job(0, 5, 0) = 9
        step(5) = 9
        outcome(9) = 0
        count(34) = 5
        """);
    runs.run("one that is leaving is still one of the five", FIVE_REGISTRATIONS, """
        open(4) = 0
        job(2, 4, 0) = 5
        step(4) = 5
        registration(4, 4) = 1
        job(0, 5, 0) = 6
        step(5) = 6
        outcome(6) = -5
        close(0) = 5
        job(0, 5, 0) = 7
        step(5) = 7
        outcome(7) = 0
        """);
    runs.run("forty workers", FORTY_WORKERS, """
        open(1) = 0
        job(1, 1, 0) = 40
        step(1) = 40
        outcome(40) = -5           # before 2
        job(0, 1, 0) = 41
        step(1) = 41
        outcome(41) = -5           # before 2
        job(0, 2, 0) = 42
        step(2) = 42
        outcome(42) = -5           # without a registration
        network(false, 0) = true
        job(1, 1, 0) = 43
        step(1) = 43
        outcome(43) = -4
        network(true, 0) = false
        serve(0, 77, 1, 0, 0)
        job(0, 2, 0) = 44
        step(2) = 44
        outcome(44) = -1
        job(2, 1, 0) = 45
        step(1) = 45
        outcome(45) = 1
        job(0, 1, 0) = 46
        step(1) = 46
        outcome(46) = -5
        registration(1, 4) = 1     # it goes on leaving
        job(1, 1, 0) = 47
        step(1) = 47
        outcome(47) = -2
        count(1) = 40
        count(0) = 1
        worker(40, 0) = 3
        """);
  }

  private static void waits(Runs runs) {
    String controlled = """
        serve(0, 7, 0, 0, 0)
        job(0, 1, 0) = 0
        step(1) = 0
        step(1) = 0
        open(1) = 0
        serve(0, 8, 0, 0, 0)
        job(1, 1, 0) = 1
        step(1) = 1
        step(1) = 1
        outcome(1) = 1
        registration(1, 2) = 2
        registration(1, 3) = 1
        worker(2, 0) = 2
        count(5) = 7
        """;
    runs.run("the newest one is the waiting one", controlled, """
        job(1, 1, 0) = 2
        step(1) = 2
        outcome(2) = 2
        serve(0, 7, 0, 0, 0)       # what the active one has, but not the waiting one
        job(0, 1, 0) = 3
        step(1) = 3
        outcome(3) = 0
        registration(1, 1) = 3
        registration(1, 2) = 2
        step(1) = 3
        outcome(3) = 1
        registration(1, 1) = 0
        registration(1, 2) = 3
        worker(2, 0) = 4
        trace(7) = 1002
        trace(8) = 25
        trace(9) = 20              # the one that waited is redundant first
        trace(10) = 26
        trace(11) = 1003
        count(5) = 12
        """);
    runs.run("one that skips while it installs becomes active at once", controlled, """
        open(28) = 1
        open(2) = 2
        serve(0, 9, 0, 0, 0)
        job(1, 1, 0) = 2
        step(1) = 2
        skip(1) = 2                # the waiting one goes first
        registration(1, 3) = 2
        skip(1) = 3
        registration(1, 1) = 3
        step(1) = 2
        registration(1, 3) = 3
        worker(3, 3) = 2
        trace(7) = 25
        trace(8) = 12
        trace(9) = 19
        trace(10) = -3
        trace(11) = -67
        trace(12) = 26
        trace(13) = 20
        trace(14) = 27
        trace(15) = -4
        trace(16) = -68
        trace(17) = 1002
        count(5) = 18
        """);
    runs.run("with no client of the active one it becomes active at once", """
        job(0, 1, 0) = 0
        step(1) = 0
        step(1) = 0
        open(2) = 0                # a client, but not one of this scope
        serve(0, 1, 0, 0, 0)
        job(1, 1, 0) = 1
        step(1) = 1
        step(1) = 1
        registration(1, 3) = 2
        registration(1, 2) = 0
        count(10) = 0
        trace(4) = 17
        trace(5) = 18
        trace(6) = 12
        trace(7) = 19
        trace(8) = 1001
        count(5) = 9
        """);
    runs.run("a first worker takes no client", """
        open(1) = 0
        job(0, 1, 0) = 0
        step(1) = 0
        step(1) = 0
        count(10) = 0
        count(5) = 4
        """);
  }

  private static void fails(Runs runs) {
    runs.run("with a flaw a new registration goes", """
        serve(0, 1, 0, 1, 0)
        job(0, 1, 0) = 0
        step(1) = 0
        count(0) = 1
        step(1) = 0
        outcome(0) = -3
        count(0) = 0
        worker(1, 0) = 4
        trace(0) = 9
        trace(1) = 12
        trace(2) = 1000
        count(5) = 3
        """);
    runs.run("with a flaw one that has another worker stays", """
        serve(0, 7, 0, 0, 0)
        job(0, 1, 0) = 0
        step(1) = 0
        step(1) = 0
        serve(1, 9, 0, 1, 0)
        job(0, 1, 1) = 1
        step(1) = 1
        registration(1, 1) = 2
        step(1) = 1
        outcome(1) = -3
        registration(1, 1) = 0
        registration(1, 2) = 0
        registration(1, 3) = 1
        registration(1, 0) = 1     # it has the new script all the same
        serve(1, 7, 0, 1, 0)
        job(1, 1, 0) = 2
        step(1) = 2
        outcome(2) = 2             # only the content of the newest one counts
        """);
    runs.run("with a flaw the waiting one stays", """
        job(0, 1, 0) = 0
        step(1) = 0
        step(1) = 0
        open(1) = 0
        serve(0, 1, 0, 0, 0)
        job(1, 1, 0) = 1
        step(1) = 1
        step(1) = 1
        serve(0, 2, 0, 1, 0)
        job(1, 1, 0) = 2
        step(1) = 2
        step(1) = 2
        outcome(2) = -3
        registration(1, 2) = 2
        registration(1, 3) = 1
        worker(2, 0) = 2
        """);
  }

  private static void rows(Runs runs) {
    runs.run("rows of two scopes go on for themselves", """
        job(0, 1, 0) = 0
        job(0, 2, 0) = 1
        job(2, 1, 0) = 2
        step(1) = 0
        step(2) = 1
        step(2) = 1
        step(1) = 0
        step(1) = 2
        step(1) throws NoSuchElementException
        step(2) throws NoSuchElementException
        step(0) throws NoSuchElementException
        trace(0) = 9
        trace(1) = 17
        trace(2) = 18
        trace(3) = 19
        trace(4) = 1001
        trace(5) = 10
        trace(6) = 11
        trace(7) = 1000
        trace(8) = 12
        trace(9) = 1002
        """);
    runs.run("wrong arguments", """
        step(-1) throws IllegalArgumentException
        step(27) throws IllegalArgumentException
        step(531441) throws IllegalArgumentException
        step(0) throws NoSuchElementException
        step(531440) throws NoSuchElementException
        """);
  }
}

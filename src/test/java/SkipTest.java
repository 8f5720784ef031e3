/** Promise 9: skip. */
public final class SkipTest {
  private static final String WAITING = """
      job(0, 1, 0) = 0
      step(1) = 0
      step(1) = 0
      open(1) = 0
      open(1) = 1
      open(2) = 2
      serve(0, 1, 0, 0, 0)
      job(1, 1, 0) = 1
      step(1) = 1
      step(1) = 1
      registration(1, 2) = 2
      count(5) = 7
      """;

  public static void main(String[] args) {
    Runs runs = new Runs();
    runs.run("the waiting one becomes active and takes the clients", WAITING, """
        skip(1) = 2
        registration(1, 2) = 0
        registration(1, 3) = 2
        worker(1, 0) = 4
        worker(2, 0) = 3
        worker(1, 3) = 0
        worker(2, 3) = 2
        count(10) = 2
        count(11) = 2
        count(12) = 0
        trace(7) = 12
        trace(8) = 19
        trace(9) = -3
        trace(10) = -67
        count(5) = 11
        skip(1) throws IllegalStateException
        """);
    runs.run("the waiting one, though another installs", WAITING, """
        serve(0, 2, 0, 0, 0)
        job(1, 1, 0) = 2
        step(1) = 2
        skip(1) = 2
        registration(1, 1) = 3
        registration(1, 3) = 2
        step(1) = 2
        registration(1, 2) = 3      # this one does not skip
        registration(1, 3) = 2
        """);
    runs.run("the installing one skips when it has installed", """
        job(0, 1, 0) = 0
        step(1) = 0
        step(1) = 0
        open(1) = 0
        serve(0, 1, 0, 0, 0)
        job(1, 1, 0) = 1
        step(1) = 1
        skip(1) = 2
        skip(1) = 2
        registration(1, 1) = 2
        registration(1, 3) = 1
        count(5) = 5
        step(1) = 1
        registration(1, 3) = 2
        count(10) = 2
        serve(0, 2, 0, 0, 0)
        job(1, 1, 0) = 2
        step(1) = 2
        step(1) = 2
        registration(1, 2) = 3      # the next one does not
        registration(1, 3) = 2
        """);
    runs.run("the first one may skip", """
        job(0, 1, 0) = 0
        step(1) = 0
        skip(1) = 1
        step(1) = 0
        registration(1, 3) = 1
        skip(1) throws IllegalStateException
        """);
    runs.run("the waiting one of a registration that is leaving", WAITING, """
        job(2, 1, 0) = 2
        step(1) = 2
        skip(1) = 2
        registration(1, 3) = 2
        registration(1, 4) = 1
        count(10) = 2
        close(0) = 2
        close(1) = 2
        count(0) = 0
        """);
    runs.run("wrong arguments", """
        skip(-1) throws IllegalArgumentException
        skip(756) throws IllegalArgumentException
        skip(531441) throws IllegalArgumentException
        skip(0) throws NoSuchElementException
        job(0, 0, 0) = 0
        skip(0) throws NoSuchElementException
        step(0) = 0
        skip(1) throws NoSuchElementException
        step(0) = 0
        skip(0) throws IllegalStateException
        """);
    runs.end();
  }
}

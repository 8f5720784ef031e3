/** Promise 7: close. */
public final class CloseTest {
  private static final String WAITING = """
      job(0, 1, 0) = 0
      step(1) = 0
      step(1) = 0
      open(1) = 0
      open(1) = 1
      serve(0, 1, 0, 0, 0)
      job(1, 1, 0) = 1
      step(1) = 1
      step(1) = 1
      registration(1, 2) = 2
      count(5) = 7
      """;

  public static void main(String[] args) {
    Runs runs = new Runs();
    runs.run("a client goes", """
        open(1) = 0
        open(2) = 1
        close(0) = 0
        count(2) = 1
        count(20) = -1
        count(21) = 2
        close(0) throws NoSuchElementException
        fetch(0, 1) throws NoSuchElementException
        close(1) = 0
        count(2) = 0
        """);
    runs.run("with the last client the waiting one becomes active", WAITING, """
        close(0) = 1
        registration(1, 2) = 2
        registration(1, 3) = 1
        count(10) = 0
        count(5) = 7
        close(1) = 1
        registration(1, 2) = 0
        registration(1, 3) = 2
        worker(1, 0) = 4
        trace(7) = 12
        trace(8) = 19
        count(5) = 9
        """);
    runs.run("one that is leaving is cleared instead", WAITING, """
        job(2, 1, 0) = 2
        step(1) = 2
        registration(1, 4) = 1
        close(1) = 1
        registration(1, 4) = 1
        close(0) = 1
        count(0) = 0
        trace(7) = 1002
        trace(8) = 20
        trace(9) = 12
        count(5) = 10
        worker(1, 0) = 4
        worker(2, 0) = 4
        """);
    runs.run("a client of none settles nothing", WAITING, """
        open(2) = 2
        close(2) = 0
        registration(1, 2) = 2
        count(5) = 7
        """);
    runs.run("only the registration of its own worker is settled", WAITING, """
        job(0, 2, 0) = 2
        step(2) = 2
        step(2) = 2
        open(2) = 2
        job(2, 2, 0) = 3
        step(2) = 3
        close(2) = 3
        count(0) = 1
        registration(1, 2) = 2
        close(0) = 1
        close(1) = 1
        registration(1, 3) = 2
        """);
    runs.run("an installing one goes on", """
        job(0, 1, 0) = 0
        step(1) = 0
        step(1) = 0
        open(1) = 0
        serve(0, 1, 0, 0, 0)
        job(1, 1, 0) = 1
        step(1) = 1
        close(0) = 1
        registration(1, 1) = 2
        registration(1, 3) = 1
        step(1) = 1
        registration(1, 3) = 2
        """);
    runs.run("wrong arguments", """
        close(0) throws NoSuchElementException
        close(-1) throws NoSuchElementException
        close(8) throws NoSuchElementException
        close(2147483647) throws NoSuchElementException
        open(1) = 0
        close(1) throws NoSuchElementException
        close(0) = 0
        """);
    runs.end();
  }
}

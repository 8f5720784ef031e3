/** Promise 2: serve. */
public final class ServeTest {
  public static void main(String[] args) {
    Runs runs = new Runs();
    runs.run("a script is this from now on", """
        serve(2, 77, 1, 0, 3)
        job(0, 1, 2) = 0
        step(1) = 0
        worker(1, 1) = 77
        worker(1, 2) = 3
        serve(2, -2147483648, 0, 0, 1)     # a worker keeps what the script was when it was made
        worker(1, 1) = 77
        worker(1, 2) = 3
        step(1) = 0
        job(1, 1, 0) = 1
        step(1) = 1
        worker(2, 1) = -2147483648
        worker(2, 2) = 1
        """);
    runs.run("each script for itself", """
        serve(0, 10, 0, 0, 0)
        serve(1, 11, 0, 0, 1)
        serve(2, 12, 0, 0, 2)
        serve(3, 2147483647, 0, 0, 3)
        job(0, 0, 0) = 0
        job(0, 1, 1) = 1
        job(0, 2, 2) = 2
        job(0, 3, 3) = 3
        step(0) = 0
        step(1) = 1
        step(2) = 2
        step(3) = 3
        worker(1, 1) = 10
        worker(2, 1) = 11
        worker(3, 1) = 12
        worker(4, 1) = 2147483647
        worker(1, 2) = 0
        worker(2, 2) = 1
        worker(3, 2) = 2
        worker(4, 2) = 3
        """);
    runs.run("wrong arguments, which change nothing", """
        serve(0, 1, 1, 0, 3)
        serve(-1, 0, 0, 0, 0) throws IllegalArgumentException
        serve(4, 0, 0, 0, 0) throws IllegalArgumentException
        serve(2147483647, 0, 0, 0, 0) throws IllegalArgumentException
        serve(-2147483648, 0, 0, 0, 0) throws IllegalArgumentException
        serve(0, 9, -1, 0, 0) throws IllegalArgumentException
        serve(0, 9, 27, 0, 0) throws IllegalArgumentException
        serve(0, 9, 730, 0, 0) throws IllegalArgumentException
        serve(0, 9, 531441, 0, 0) throws IllegalArgumentException
        serve(0, 9, 0, -1, 0) throws IllegalArgumentException
        serve(0, 9, 0, 2, 0) throws IllegalArgumentException
        serve(0, 9, 0, 1, -1) throws IllegalArgumentException
        serve(0, 9, 0, 1, 4) throws IllegalArgumentException
        job(0, 2, 0) = 0
        step(2) = 0
        outcome(0) = -1
        job(0, 1, 0) = 1
        step(1) = 1
        worker(1, 1) = 1
        worker(1, 2) = 3
        step(1) = 1
        outcome(1) = 1
        """);
    runs.run("a flaw counts as it was when the worker was made", """
        serve(0, 1, 0, 1, 0)
        job(0, 1, 0) = 0
        step(1) = 0
        serve(0, 1, 0, 0, 0)
        step(1) = 0
        outcome(0) = -3
        job(0, 1, 0) = 1
        step(1) = 1
        serve(0, 1, 0, 1, 0)
        step(1) = 1
        outcome(1) = 1
        """);
    runs.run("broad counts as it is at the step", """
        serve(0, 0, 2, 0, 0)
        job(0, 1, 0) = 0
        serve(0, 0, 1, 0, 0)
        step(1) = 0
        outcome(0) = 0
        """);
    runs.end();
  }
}

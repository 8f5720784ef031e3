/** Promise 13: outcome. */
public final class OutcomeTest {
  public static void main(String[] args) {
    Runs runs = new Runs();
    runs.run("0 till it ends, then what it ended with", """
        serve(1, 0, 2, 0, 0)
        serve(2, 1, 0, 1, 0)
        job(0, 1, 1) = 0
        job(0, 1, 0) = 1
        job(0, 1, 2) = 2
        job(2, 1, 0) = 3
        outcome(0) = 0
        outcome(3) = 0
        step(1) = 0
        outcome(0) = -1
        step(1) = 1
        outcome(1) = 0
        step(1) = 1
        outcome(1) = 1
        step(1) = 2
        outcome(2) = 0
        step(1) = 2
        outcome(2) = -3
        step(1) = 3
        outcome(3) = 1
        job(1, 1, 0) = 4
        step(1) = 4
        outcome(4) = -2
        network(false, 0) = true
        job(0, 1, 0) = 5
        step(1) = 5
        outcome(5) = -4
        outcome(0) = -1
        outcome(1) = 1
        outcome(2) = -3
        """);
    runs.run("wrong arguments", """
        outcome(0) throws IndexOutOfBoundsException
        outcome(-1) throws IndexOutOfBoundsException
        job(1, 1, 0) = 0
        outcome(0) = 0
        outcome(1) throws IndexOutOfBoundsException
        outcome(60) throws IndexOutOfBoundsException
        outcome(2147483647) throws IndexOutOfBoundsException
        outcome(-2147483648) throws IndexOutOfBoundsException
        """);
    runs.run("sixty jobs",
        Runs.each(0, 59, """
            job(1, 1, 0) = {i}
            step(1) = {i}
            """),
        """
        outcome(59) = -2
        outcome(60) throws IndexOutOfBoundsException
        """);
    runs.end();
  }
}

/** Promise 14: trace, and the term THE TRACE. */
public final class TraceTest {
  public static void main(String[] args) {
    Runs runs = new Runs();
    runs.run("all that happens, in its order", """
        trace(0) throws IndexOutOfBoundsException
        job(0, 1, 0) = 0
        trace(0) throws IndexOutOfBoundsException
        step(1) = 0
        trace(0) = 9
        trace(1) throws IndexOutOfBoundsException
        step(1) = 0
        open(1) = 0
        open(1) = 1
        serve(0, 1, 0, 0, 0)
        job(1, 1, 0) = 1
        step(1) = 1
        step(1) = 1
        skip(1) = 2
        job(2, 1, 0) = 2
        step(1) = 2
        close(0) = 2
        close(1) = 2
        trace(1) = 10
        trace(2) = 11
        trace(3) = 1000
        trace(4) = 17
        trace(5) = 18
        trace(6) = 1001
        trace(7) = 12
        trace(8) = 19
        trace(9) = -3
        trace(10) = -67
        trace(11) = 1002
        trace(12) = 20
        trace(13) throws IndexOutOfBoundsException
        """);
    runs.run("client 7 and the last number of a job",
        Runs.each(0, 7, "open(1) = {i}"),
        """
        job(0, 1, 0) = 0
        step(1) = 0
        step(1) = 0
        claim(1) = 8
        trace(4) = -2
        trace(11) = -450
        trace(12) throws IndexOutOfBoundsException
        """);
    runs.run("sixty are kept",
        Runs.each(0, 57, """
            job(1, 1, 0) = {i}
            step(1) = {i}
            """),
        """
        count(5) = 58
        job(0, 1, 0) = 58
        step(1) = 58
        count(5) = 59
        trace(58) = 9
        trace(59) throws IndexOutOfBoundsException
        step(1) = 58
        trace(57) = 1057
        trace(59) = 10
        trace(60) throws IndexOutOfBoundsException
        trace(61) throws IndexOutOfBoundsException
        count(5) = 62                # what is not kept is counted
        worker(1, 0) = 3             # what is not kept happens all the same
        outcome(58) = 1
        open(1) = 0
        job(2, 1, 0) = 59
        step(1) = 59
        outcome(59) = 1
        close(0) = 1
        worker(1, 0) = 4
        trace(0) = 1000
        trace(59) = 10
        trace(60) throws IndexOutOfBoundsException
        trace(63) throws IndexOutOfBoundsException
        count(5) = 64
        """);
    runs.run("wrong arguments", """
        job(1, 1, 0) = 0
        step(1) = 0
        trace(0) = 1000
        trace(-1) throws IndexOutOfBoundsException
        trace(1) throws IndexOutOfBoundsException
        trace(59) throws IndexOutOfBoundsException
        trace(60) throws IndexOutOfBoundsException
        trace(2147483647) throws IndexOutOfBoundsException
        trace(-2147483648) throws IndexOutOfBoundsException
        """);
    runs.end();
  }
}

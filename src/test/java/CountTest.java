/** Promise 15: count. */
public final class CountTest {
  public static void main(String[] args) {
    Runs runs = new Runs();
    runs.run("how many there are", """
        job(0, 1, 0) = 0
        job(0, 2, 0) = 1
        job(1, 2, 0) = 2
        count(0) = 0
        count(3) = 3
        count(4) = 3
        step(1) = 0
        count(0) = 1
        count(1) = 1
        count(4) = 3                 # begun, but not ended
        count(5) = 1
        step(1) = 0
        count(4) = 2
        count(5) = 4
        step(2) = 1
        step(2) = 1
        count(0) = 2
        count(1) = 2
        count(4) = 1
        open(1) = 0
        open(1) = 1
        count(2) = 2
        close(0) = 1
        count(2) = 1
        job(2, 2, 0) = 3
        step(2) = 2
        step(2) = 3
        count(0) = 1
        count(1) = 2                 # a redundant worker is still one
        count(3) = 4
        count(4) = 0
        """);
    runs.run("clients",
        """
        job(0, 1, 0) = 0
        step(1) = 0
        step(1) = 0
        """,
        Runs.each(0, 7, """
            count(1{i}) = 0
            count(2{i}) = -1
            """),
        Runs.each(0, 6, "open(2) = {i}"),
        """
        open(28) = 7
        count(10) = 0
        count(17) = 1
        count(20) = 2
        count(27) = 28
        close(7) = 1
        count(17) = 0
        count(27) = -1
        open(0) = 7
        count(27) = 0
        """);
    runs.run("scopes in the order in which they were made",
        Runs.each(1, 5, """
            job(0, {i}, 0)
            step({i})
            step({i})
            count(0) = {i}
            """),
        """
        count(30) = 1
        count(31) = 2
        count(32) = 3
        count(33) = 4
        count(34) = 5
        job(2, 1, 0) = 5
        step(1) = 5
        job(2, 4, 0) = 6
        step(4) = 6
        count(30) = 2
        count(31) = 3
        count(32) = 5
        count(33) = -1
        count(34) = -1
        job(0, 1, 0) = 7
        step(1) = 7
        count(33) = 1                # made anew, so it is the last one
        count(34) = -1
        job(0, 0, 0) = 8
        step(0) = 8
        count(34) = 0
        """);
    runs.run("the numbers of the trace, also those that are not kept",
        """
        count(5) = 0
        job(0, 1, 0) = 0
        step(1) = 0
        step(1) = 0
        count(5) = 4
        """,
        Runs.each(1, 55, """
            job(1, 1, 0) = {i}
            step(1) = {i}
            """),
        """
        count(5) = 59
        trace(58) = 1055
        trace(59) throws IndexOutOfBoundsException
        job(1, 1, 0) = 56
        step(1) = 56
        count(5) = 60
        trace(59) = 1056
        job(1, 1, 0) = 57
        step(1) = 57
        count(5) = 61                # the first that is not kept
        trace(59) = 1056
        trace(60) throws IndexOutOfBoundsException
        job(1, 1, 0) = 58
        step(1) = 58
        job(1, 1, 0) = 59
        step(1) = 59
        count(5) = 63
        trace(62) throws IndexOutOfBoundsException
        """,
        Runs.each(0, 7, "open(0) = {i}"),
        """
        count(5) = 63                # a client that is opened is no number
        close(0) = 0
        open(1) = 0
        close(0) = 1
        count(5) = 63
        """);
    runs.run("a worker's states and claimed clients count behind the sixtieth too",
        Runs.each(0, 56, """
            job(1, 1, 0) = {i}
            step(1) = {i}
            """),
        Runs.each(0, 7, "open(1) = {i}"),
        """
        job(0, 1, 0) = 57
        step(1) = 57
        step(1) = 57
        count(5) = 61
        claim(1) = 8
        count(5) = 69
        claim(1) = 0
        count(5) = 69
        serve(0, 1, 0, 0, 0)
        job(1, 1, 0) = 58
        step(1) = 58
        count(5) = 70
        step(1) = 58
        count(5) = 72
        skip(1) = 2
        count(5) = 82                # redundant, activated, and eight clients
        count(6) throws IllegalArgumentException
        step(1) throws NoSuchElementException
        count(5) = 82
        """);
    runs.run("wrong arguments", """
        count(-1) throws IllegalArgumentException
        count(6) throws IllegalArgumentException
        count(9) throws IllegalArgumentException
        count(18) throws IllegalArgumentException
        count(19) throws IllegalArgumentException
        count(28) throws IllegalArgumentException
        count(29) throws IllegalArgumentException
        count(35) throws IllegalArgumentException
        count(2147483647) throws IllegalArgumentException
        count(-2147483648) throws IllegalArgumentException
        """);
    runs.end();
  }
}

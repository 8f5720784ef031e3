/** Promise 4: job. */
public final class JobTest {
  public static void main(String[] args) {
    Runs runs = new Runs();
    runs.run("numbers go on over all scopes", """
        job(0, 1, 3) = 0
        job(1, 28, 0) = 1
        job(2, 0, 0) = 2
        job(1, 1, 0) = 3
        job(2, 1, 0) = 4
        count(3) = 5
        count(4) = 5
        count(5) = 0                # nothing has happened yet
        outcome(4) = 0
        step(1) = 0
        step(0) = 2
        step(28) = 1
        """);
    runs.run("one like the last one does not come", """
        job(0, 1, 2) = 0
        job(0, 1, 2) = 0
        job(0, 1, 3) = 1            # another script
        job(0, 1, 2) = 2            # like one that is not the last one
        job(0, 2, 2) = 3            # another scope
        job(0, 1, 2) = 2            # the last one of its own row
        job(1, 1, 9) = 4
        job(1, 1, -7) = 4           # only a register has a script
        count(3) = 5
        """);
    runs.run("likeness is kind, too", """
        job(0, 1, 0) = 0
        job(1, 1, 0) = 1
        job(2, 1, 0) = 2
        job(2, 1, 3) = 2
        job(0, 1, 0) = 3
        job(0, 1, 0) = 3
        """);
    runs.run("one that is begun is not told instead", """
        job(0, 1, 0) = 0
        step(1) = 0
        job(0, 1, 0) = 1
        job(0, 1, 0) = 1
        step(1) = 0
        job(0, 1, 0) = 1
        step(1) = 1
        job(0, 1, 0) = 2            # and neither one that ended
        """);
    runs.run("four in a row", """
        job(0, 1, 0) = 0
        job(0, 1, 1) = 1
        job(0, 1, 2) = 2
        job(0, 1, 3) = 3
        job(0, 1, 0) throws IllegalStateException
        job(1, 1, 0) throws IllegalStateException
        job(0, 1, 3) = 3            # like the last one
        job(0, 0, 0) = 4            # another row
        step(1) = 0
        job(1, 1, 0) throws IllegalStateException   # begun, but not ended
        step(1) = 0
        job(1, 1, 0) = 5
        job(2, 1, 0) throws IllegalStateException
        count(3) = 6
        """);
    runs.run("four in a row with the first one begun and like it", """
        job(0, 1, 0) = 0
        step(1) = 0
        job(0, 1, 0) = 1
        job(1, 1, 0) = 2
        job(2, 1, 0) = 3
        job(0, 1, 0) throws IllegalStateException
        """);
    runs.run("sixty in all",
        Runs.each(0, 58, """
            job(1, 1, 0) = {i}
            step(1) = {i}
            """),
        """
        job(1, 1, 0) = 59
        job(1, 1, 0) = 59           # like the last one
        job(2, 1, 0) throws IllegalStateException
        job(1, 2, 0) throws IllegalStateException
        step(1) = 59
        job(1, 1, 0) throws IllegalStateException
        outcome(59) = -2
        count(3) = 60
        count(4) = 0
        job(3, 1, 0) throws IllegalArgumentException
        job(0, 27, 0) throws IllegalArgumentException
        """);
    runs.run("wrong arguments", """
        job(-1, 0, 0) throws IllegalArgumentException
        job(3, 0, 0) throws IllegalArgumentException
        job(0, 0, -1) throws IllegalArgumentException
        job(0, 0, 4) throws IllegalArgumentException
        job(0, -1, 0) throws IllegalArgumentException
        job(1, 27, 0) throws IllegalArgumentException
        job(2, 531441, 0) throws IllegalArgumentException
        count(3) = 0
        job(1, 0, 4) = 0
        job(2, 0, -1) = 1
        job(0, 0, 3) = 2
        job(1, 0, 0) = 3
        job(0, 0, 4) throws IllegalArgumentException   # though its row is full
        """);
    runs.end();
  }
}

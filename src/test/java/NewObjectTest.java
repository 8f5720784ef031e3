/** Promise 1: a new object, in which nothing is there. */
public final class NewObjectTest {
  public static void main(String[] args) {
    Runs runs = new Runs();
    String nothing = Runs.each(0, 5, "count({i}) = 0")
        + Runs.each(10, 17, "count({i}) = 0")
        + Runs.each(20, 27, "count({i}) = -1")
        + Runs.each(30, 34, "count({i}) = -1")
        + """
        worker(1, 0) throws IndexOutOfBoundsException
        registration(0, 0) throws NoSuchElementException
        outcome(0) throws IndexOutOfBoundsException
        trace(0) throws IndexOutOfBoundsException
        close(0) throws NoSuchElementException
        step(0) throws NoSuchElementException
        """;
    runs.run("nothing is there", nothing);
    runs.run("an object that is used", """
        network(false, 9) = true
        open(1) = 0
        job(0, 1, 0) = 0
        serve(0, 5, 1, 1, 3)
        """);
    runs.run("leaves another one as new", nothing, "network(true, 0) = true");
    runs.run("scripts and the network are 0 and up at first",
        Runs.each(0, 3, """
            job(0, {i}, {i}) = {i}
            step({i}) = {i}
            step({i}) = {i}
            outcome({i}) = 1
            registration({i}, 0) = {i}
            """),
        Runs.each(1, 4, """
            worker({i}, 0) = 3
            worker({i}, 1) = 0
            worker({i}, 2) = 0
            """),
        """
        open(3) = 0
        count(10) = 4
        fetch(0, 28) = 28
        network(true, 0) = true
        """);
    runs.end();
  }
}

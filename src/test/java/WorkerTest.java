/** Promise 12: worker. */
public final class WorkerTest {
  public static void main(String[] args) {
    Runs runs = new Runs();
    runs.run("what there is of it", """
        serve(0, -9, 0, 0, 2)
        job(0, 1, 0) = 0
        step(1) = 0
        worker(1, 0) = 1
        worker(1, 1) = -9
        worker(1, 2) = 2
        worker(1, 3) = 0
        worker(1, 4) = 0
        step(1) = 0
        worker(1, 0) = 3
        open(1) = 0
        open(28) = 1
        open(2) = 2
        worker(1, 3) = 2
        serve(0, 10, 0, 0, 1)
        job(1, 1, 0) = 1
        step(1) = 1
        step(1) = 1
        worker(2, 0) = 2
        worker(2, 3) = 0
        worker(1, 0) = 3
        skip(1) = 2
        worker(1, 0) = 4
        worker(1, 3) = 0
        worker(2, 0) = 3
        worker(2, 3) = 2
        close(0) = 2
        worker(2, 3) = 1
        """);
    runs.run("its cache", """
        serve(0, 0, 0, 0, 1)
        job(0, 1, 0) = 0
        step(1) = 0
        step(1) = 0
        open(1) = 0
        network(true, 50) = true
        """,
        Runs.each(10, 13, "worker(1, {i}) = 0"),
        Runs.each(20, 23, "worker(1, {i}) = 0"),
        """
        fetch(0, 9) = 59
        fetch(0, 0) = 50
        fetch(0, 7) = 57
        worker(1, 4) = 3
        worker(1, 10) = 9
        worker(1, 11) = 0
        worker(1, 12) = 7
        worker(1, 13) = 0
        worker(1, 20) = 59
        worker(1, 21) = 50
        worker(1, 22) = 57
        worker(1, 23) = 0
        fetch(0, 6) = 56
        worker(1, 13) = 6
        worker(1, 23) = 56
        worker(1, 4) = 4
        fetch(0, 5) = 55
        worker(1, 4) = 4
        worker(1, 13) = 5
        worker(1, 23) = 55
        job(2, 1, 0) = 1
        step(1) = 1
        close(0) = 1
        worker(1, 0) = 4
        worker(1, 13) = 5            # a redundant one keeps its cache
        """);
    String wrongWhats = """
        worker({i}, -1) throws IllegalArgumentException
        worker({i}, 5) throws IllegalArgumentException
        worker({i}, 9) throws IllegalArgumentException
        worker({i}, 14) throws IllegalArgumentException
        worker({i}, 19) throws IllegalArgumentException
        worker({i}, 24) throws IllegalArgumentException
        worker({i}, 2147483647) throws IllegalArgumentException
        worker({i}, -2147483648) throws IllegalArgumentException
        """;
    runs.run("wrong arguments", """
        worker(0, 0) throws IndexOutOfBoundsException
        worker(1, 0) throws IndexOutOfBoundsException
        job(0, 1, 0) = 0
        worker(1, 0) throws IndexOutOfBoundsException
        step(1) = 0
        worker(1, 0) = 1
        worker(0, 23) throws IndexOutOfBoundsException
        worker(2, 0) throws IndexOutOfBoundsException
        worker(-1, 4) throws IndexOutOfBoundsException
        worker(41, 10) throws IndexOutOfBoundsException
        worker(2147483647, 0) throws IndexOutOfBoundsException
        worker(-2147483648, 0) throws IndexOutOfBoundsException
        """,
        Runs.each(0, 2, wrongWhats));
    runs.end();
  }
}

/** Promise 10: fetch. */
public final class FetchTest {
  private static String controlledWith(int mode) {
    return "serve(0, 77, 0, 0, " + mode + ")\n" + """
        job(0, 1, 0) = 0
        step(1) = 0
        step(1) = 0
        open(1) = 0
        count(10) = 1
        """;
  }

  public static void main(String[] args) {
    Runs runs = new Runs();
    runs.run("without a worker", """
        open(1) = 0
        fetch(0, 2) = 2
        network(true, 10) = true
        fetch(0, 2) = 12
        network(false, 10) = true
        fetch(0, 2) throws UnsupportedOperationException
        """);
    runs.run("mode 0: the network, and nothing is kept", controlledWith(0), """
        fetch(0, 2) = 2
        worker(1, 4) = 0
        network(false, 0) = true
        fetch(0, 2) throws UnsupportedOperationException
        """);
    runs.run("mode 1: the cache, else the network", controlledWith(1), """
        network(true, 100) = true
        fetch(0, 0) = 100
        fetch(0, 2) = 102
        network(true, 200) = true
        fetch(0, 0) = 100
        fetch(0, 3) = 203
        worker(1, 4) = 3
        worker(1, 10) = 0           # a value out of the cache is not kept again
        worker(1, 20) = 100
        worker(1, 11) = 2
        worker(1, 12) = 3
        network(false, 300) = true
        fetch(0, 2) = 102
        fetch(0, 4) throws UnsupportedOperationException
        worker(1, 4) = 3
        """);
    runs.run("mode 1: the first one goes for a fifth", controlledWith(1), """
        fetch(0, 1) = 1
        fetch(0, 2) = 2
        fetch(0, 3) = 3
        fetch(0, 4) = 4
        fetch(0, 1) = 1
        worker(1, 4) = 4
        worker(1, 10) = 1
        fetch(0, 5) = 5
        worker(1, 4) = 4
        worker(1, 10) = 2
        worker(1, 11) = 3
        worker(1, 12) = 4
        worker(1, 13) = 5
        worker(1, 20) = 2
        worker(1, 23) = 5
        network(false, 0) = true
        fetch(0, 1) throws UnsupportedOperationException
        fetch(0, 5) = 5
        """);
    runs.run("mode 2: the network, else the cache", controlledWith(2), """
        fetch(0, 1) = 1
        fetch(0, 2) = 2
        fetch(0, 3) = 3
        fetch(0, 4) = 4
        network(true, 100) = true
        fetch(0, 2) = 102           # it comes behind all others
        worker(1, 4) = 4
        worker(1, 10) = 1
        worker(1, 11) = 3
        worker(1, 12) = 4
        worker(1, 13) = 2
        worker(1, 20) = 1
        worker(1, 21) = 3
        worker(1, 22) = 4
        worker(1, 23) = 102
        fetch(0, 5) = 105           # the first one goes
        worker(1, 4) = 4
        worker(1, 10) = 3
        worker(1, 13) = 5
        network(false, 200) = true
        fetch(0, 3) = 3
        worker(1, 10) = 3           # and stays where it was
        fetch(0, 2) = 102
        fetch(0, 1) throws UnsupportedOperationException
        """);
    runs.run("mode 2: one that comes again before there are four", controlledWith(2), """
        fetch(0, 1) = 1
        fetch(0, 2) = 2
        fetch(0, 1) = 1
        worker(1, 4) = 2
        worker(1, 10) = 2
        worker(1, 11) = 1
        worker(1, 12) = 0
        """);
    runs.run("mode 3: its content", controlledWith(3), """
        fetch(0, 2) = 77
        network(false, 0) = true
        fetch(0, 531440) = 77
        serve(0, 78, 0, 0, 0)
        fetch(0, 2) = 77
        worker(1, 4) = 0
        """);
    runs.run("clients of one worker share its cache, of another they do not", controlledWith(1), """
        open(28) = 1
        job(0, 2, 0) = 1
        step(2) = 1
        step(2) = 1
        open(2) = 2
        network(true, 100) = true
        fetch(0, 5) = 105
        network(true, 200) = true
        fetch(1, 5) = 105
        fetch(2, 5) = 205
        worker(1, 4) = 1
        worker(2, 4) = 1
        """);
    runs.run("a new worker has a new cache", controlledWith(1), """
        fetch(0, 5) = 5
        serve(0, 78, 0, 0, 1)
        job(1, 1, 0) = 1
        step(1) = 1
        step(1) = 1
        skip(1) = 2
        network(true, 100) = true
        fetch(0, 5) = 105
        worker(1, 4) = 1
        worker(1, 20) = 5
        worker(2, 20) = 105
        """);
    runs.run("what is kept wraps, too", controlledWith(1), """
        network(true, 2147483647) = true
        fetch(0, 2) = -2147483647
        worker(1, 20) = -2147483647
        """);
    runs.run("wrong arguments", """
        fetch(0, 0) throws NoSuchElementException
        fetch(-1, 0) throws NoSuchElementException
        fetch(8, 0) throws NoSuchElementException
        fetch(0, 27) throws IllegalArgumentException
        fetch(9, -1) throws IllegalArgumentException
        network(false, 0) = true
        fetch(0, 0) throws NoSuchElementException
        open(0) = 0
        fetch(0, 531441) throws IllegalArgumentException
        fetch(1, 0) throws NoSuchElementException
        fetch(0, 0) throws UnsupportedOperationException
        """);
    runs.end();
  }
}

/** Promise 3: network. */
public final class NetworkTest {
  public static void main(String[] args) {
    Runs runs = new Runs();
    runs.run("whether it was up", """
        network(true, 0) = true
        network(false, 0) = true
        network(false, 0) = false
        network(true, 0) = false
        network(true, 0) = true
        """);
    runs.run("what it answers", """
        open(0) = 0
        fetch(0, 0) = 0
        fetch(0, 531440) = 531440
        network(true, -5) = true
        fetch(0, 28) = 23
        network(true, 2147483647) = true
        fetch(0, 0) = 2147483647
        fetch(0, 1) = -2147483648
        fetch(0, 531440) = -2146952209
        network(true, -2147483648) = true
        fetch(0, 1) = -2147483647
        """);
    runs.run("net is told while it is down, too", """
        open(0) = 0
        network(false, 100) = true
        fetch(0, 1) throws UnsupportedOperationException
        network(false, 200) = false
        fetch(0, 1) throws UnsupportedOperationException
        network(true, 300) = false
        fetch(0, 1) = 301
        """);
    runs.end();
  }
}

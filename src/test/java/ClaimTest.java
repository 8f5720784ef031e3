/** Promise 8: claim. */
public final class ClaimTest {
  public static void main(String[] args) {
    Runs runs = new Runs();
    runs.run("clients of the scope are claimed by their numbers", """
        open(28) = 0
        open(2) = 1
        open(1) = 2
        job(0, 1, 0) = 0
        step(1) = 0
        step(1) = 0
        open(1) = 3
        count(5) = 4
        claim(1) = 2
        count(10) = 1
        count(11) = 0
        count(12) = 1
        count(13) = 1
        trace(4) = -2
        trace(5) = -130
        count(5) = 6
        claim(1) = 0                # nothing changes
        count(5) = 6
        """);
    runs.run("one with more letters keeps its clients", """
        open(28) = 0
        open(1) = 1
        job(0, 28, 0) = 0
        step(28) = 0
        step(28) = 0
        job(0, 1, 0) = 1
        step(1) = 1
        step(1) = 1
        claim(1) = 1                # 28 is not controlled, but it is not for scope 1
        count(10) = 0
        count(11) = 2
        claim(28) = 1
        count(10) = 1
        """);
    runs.run("a leaving one has no path", """
        open(1) = 0
        job(0, 1, 0) = 0
        step(1) = 0
        step(1) = 0
        open(1) = 1
        job(2, 1, 0) = 1
        step(1) = 1
        claim(1) = 0
        count(10) = 0
        registration(1, 4) = 1
        """);
    runs.run("the others are settled when all are claimed: clearing", """
        job(0, 0, 0) = 0
        step(0) = 0
        step(0) = 0
        open(1) = 0
        open(1) = 1
        job(2, 0, 0) = 1
        step(0) = 1
        job(0, 1, 0) = 2
        step(1) = 2
        step(1) = 2
        count(5) = 9
        claim(1) = 2
        trace(9) = -3
        trace(10) = -67
        trace(11) = 12
        count(5) = 12
        count(0) = 1
        count(30) = 1
        """);
    runs.run("the others are settled when all are claimed: activation", """
        job(0, 0, 0) = 0
        step(0) = 0
        step(0) = 0
        open(1) = 0
        open(1) = 1
        serve(0, 1, 0, 0, 0)
        job(1, 0, 0) = 1
        step(0) = 1
        step(0) = 1
        job(0, 1, 0) = 2
        step(1) = 2
        step(1) = 2
        count(5) = 11
        claim(1) = 2
        trace(11) = -4
        trace(12) = -68
        trace(13) = 12
        trace(14) = 19
        count(5) = 15
        registration(0, 3) = 2
        registration(0, 2) = 0
        """);
    runs.run("but not if one of their clients is left", """
        job(0, 0, 0) = 0
        step(0) = 0
        step(0) = 0
        open(1) = 0
        open(2) = 1
        serve(0, 1, 0, 0, 0)
        job(1, 0, 0) = 1
        step(0) = 1
        step(0) = 1
        job(0, 1, 0) = 2
        step(1) = 2
        step(1) = 2
        claim(1) = 1
        registration(0, 3) = 1
        registration(0, 2) = 2
        close(1) = 1
        registration(0, 3) = 2
        """);
    runs.run("two others are settled by the clients' numbers", """
        job(0, 0, 0) = 0
        step(0) = 0
        step(0) = 0
        open(28) = 0
        close(0) = 1
        job(0, 1, 0) = 1
        step(1) = 1
        step(1) = 1
        open(28) = 0                # of worker 2
        job(2, 1, 0) = 2
        step(1) = 2
        open(28) = 1                # of worker 1
        job(2, 0, 0) = 3
        step(0) = 3
        job(0, 28, 0) = 4
        step(28) = 4
        step(28) = 4
        count(10) = 2
        count(11) = 1
        count(5) = 14
        claim(28) = 2
        trace(14) = -4
        trace(15) = -68
        trace(16) = 20
        trace(17) = 12
        count(5) = 18
        count(0) = 1
        """);
    runs.run("only the active one claims", """
        job(0, 1, 0) = 0
        step(1) = 0
        claim(1) throws IllegalStateException
        step(1) = 0
        open(1) = 0
        serve(0, 1, 0, 0, 0)
        job(1, 1, 0) = 1
        step(1) = 1
        step(1) = 1
        claim(1) = 0
        count(10) = 1
        registration(1, 2) = 2      # the waiting one goes on waiting
        """);
    runs.run("wrong arguments", """
        claim(-1) throws IllegalArgumentException
        claim(27) throws IllegalArgumentException
        claim(531441) throws IllegalArgumentException
        claim(0) throws NoSuchElementException
        claim(531440) throws NoSuchElementException
        job(0, 1, 0) = 0
        claim(1) throws NoSuchElementException     # its job is not begun
        step(1) = 0
        claim(1) throws IllegalStateException
        claim(0) throws NoSuchElementException
        """);
    runs.end();
  }
}

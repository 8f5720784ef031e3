/** Promise 11: registration. */
public final class RegistrationTest {
  public static void main(String[] args) {
    Runs runs = new Runs();
    runs.run("what there is of it", """
        serve(3, 5, 0, 0, 0)
        job(0, 28, 3) = 0
        step(28) = 0
        registration(28, 0) = 3
        registration(28, 1) = 1
        registration(28, 2) = 0
        registration(28, 3) = 0
        registration(28, 4) = 0
        step(28) = 0
        registration(28, 1) = 0
        registration(28, 3) = 1
        open(28) = 0
        serve(3, 6, 0, 0, 0)
        job(1, 28, 0) = 1
        step(28) = 1
        step(28) = 1
        serve(3, 7, 0, 0, 0)
        job(1, 28, 0) = 2
        step(28) = 2
        registration(28, 1) = 3
        registration(28, 2) = 2
        registration(28, 3) = 1
        step(28) = 2
        job(2, 28, 0) = 3
        step(28) = 3
        registration(28, 4) = 1
        close(0) = 1
        registration(28, 4) throws NoSuchElementException
        """);
    runs.run("of each scope for itself", """
        job(0, 1, 1) = 0
        job(0, 28, 2) = 1
        step(28) = 1
        step(1) = 0
        registration(1, 0) = 1
        registration(28, 0) = 2
        registration(1, 1) = 2
        registration(28, 1) = 1
        registration(0, 0) throws NoSuchElementException
        registration(55, 0) throws NoSuchElementException
        """);
    runs.run("wrong arguments", """
        registration(0, 0) throws NoSuchElementException
        registration(0, -1) throws IllegalArgumentException
        registration(0, 5) throws IllegalArgumentException
        registration(27, 0) throws IllegalArgumentException
        registration(-1, 4) throws IllegalArgumentException
        registration(531441, 0) throws IllegalArgumentException
        job(0, 0, 0) = 0
        registration(0, 0) throws NoSuchElementException
        step(0) = 0
        registration(0, 0) = 0
        registration(0, 5) throws IllegalArgumentException
        registration(0, -2147483648) throws IllegalArgumentException
        """);
    runs.end();
  }
}

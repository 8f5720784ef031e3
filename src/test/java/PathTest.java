/** The term PATH, by every call that takes one: which numbers are PATHS, and which BEGINS which. */
public final class PathTest {
  private static final int[] PATHS = {0, 1, 26, 28, 53, 728, 757, 19682, 20440, 531440};
  private static final int[] NO_PATHS = {
    -1, 27, 54, 702, 729, 730, 756, 19683, 19684, 19710, 20412, 20413, 20439, 511758, 531414,
    531441, 531442, Integer.MAX_VALUE, Integer.MIN_VALUE};

  public static void main(String[] args) {
    Runs runs = new Runs();
    for (int path : PATHS) {
      runs.run("a path", """
          serve(3, 1, {p}, 0, 0)
          job(0, {p}, 3) = 0
          step({p}) = 0
          step({p}) = 0
          outcome(0) = 1
          count(30) = {p}
          registration({p}, 3) = 1
          open({p}) = 0
          count(20) = {p}
          count(10) = 1
          fetch(0, {p}) = {p}
          claim({p}) = 0
          skip({p}) throws IllegalStateException
          """.replace("{p}", String.valueOf(path)));
    }
    for (int number : NO_PATHS) {
      runs.run("no path", """
          open(0) = 0
          serve(0, 1, {p}, 0, 0) throws IllegalArgumentException
          job(0, {p}, 0) throws IllegalArgumentException
          job(1, {p}, 0) throws IllegalArgumentException
          job(2, {p}, 0) throws IllegalArgumentException
          step({p}) throws IllegalArgumentException
          open({p}) throws IllegalArgumentException
          claim({p}) throws IllegalArgumentException
          skip({p}) throws IllegalArgumentException
          fetch(0, {p}) throws IllegalArgumentException
          registration({p}, 0) throws IllegalArgumentException
          count(2) = 1
          count(3) = 0
          """.replace("{p}", String.valueOf(number)));
    }
    // 55 is the letters 1, 2; 1513 is 1, 2, 2; 29 is 2, 1.
    begins(runs, 0, 0, true);
    begins(runs, 0, 531440, true);
    begins(runs, 1, 55, true);
    begins(runs, 55, 55, true);
    begins(runs, 55, 1513, true);
    begins(runs, 2, 55, false);
    begins(runs, 55, 1, false);
    begins(runs, 29, 55, false);
    begins(runs, 28, 55, false);
    begins(runs, 1, 0, false);
    begins(runs, 531440, 531440, true);
    begins(runs, 531440, 19682, false);
    begins(runs, 19682, 531440, true);
    runs.end();
  }

  private static void begins(Runs runs, int start, int path, boolean does) {
    runs.run(start + " begins " + path + ": " + does,
        "serve(0, 0, " + start + ", 0, 0)",
        "job(0, " + path + ", 0) = 0",
        "step(" + path + ") = 0",
        "outcome(0) = " + (does ? 0 : -1));
    runs.run("the scope " + start + " takes in " + path + ": " + does,
        "job(0, " + start + ", 0) = 0",
        "step(" + start + ") = 0",
        "step(" + start + ") = 0",
        "open(" + path + ") = 0",
        "count(10) = " + (does ? 1 : 0));
  }
}

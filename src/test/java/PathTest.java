import java.util.ArrayList;
import java.util.Arrays;
import java.util.List;
import java.util.NoSuchElementException;

/**
 * The term PATH, by every call that takes one: which numbers are PATHS, and which BEGINS which.
 * All numbers and many pairs are tried too, against paths that are made letter by letter.
 */
public final class PathTest {
  private static final int MOST_LETTERS = 4;
  private static final int BASE = 27;
  private static final int MOST_CALLS = 512;
  private static final int[] SOME_LETTERS = {1, 2, 26};

  private static final int[] PATHS = {0, 1, 26, 28, 53, 728, 757, 19682, 20440, 531440};
  /** Among them 551881 and 14348906, the least and the greatest of five letters. */
  private static final int[] NO_PATHS = {
    -1, -28, -20440, -531440, 27, 54, 702, 729, 730, 756, 19683, 19684, 19710, 20412, 20413, 20439,
    511758, 531414, 531441, 531442, 551881, 14348906, 14908347, Integer.MAX_VALUE - 1,
    Integer.MAX_VALUE, Integer.MIN_VALUE, Integer.MIN_VALUE + 1};

  public static void main(String[] args) {
    Runs runs = new Runs();
    for (int path : PATHS) {
      runs.run("a path", """
          serve(3, 1, {p}, 0, 0)
          job(0, {p}, 3) = 0
          step({p}) = 0
          step({p}) = 0
          outcome(0) = 1
          count(30) = {p}
          registration({p}, 3) = 1
          open({p}) = 0
          count(20) = {p}
          count(10) = 1
          fetch(0, {p}) = {p}
          claim({p}) = 0
          skip({p}) throws IllegalStateException
          """.replace("{p}", String.valueOf(path)));
    }
    for (int number : NO_PATHS) {
      runs.run("no path", """
          open(0) = 0
          serve(0, 1, {p}, 0, 0) throws IllegalArgumentException
          job(0, {p}, 0) throws IllegalArgumentException
          job(1, {p}, 0) throws IllegalArgumentException
          job(2, {p}, 0) throws IllegalArgumentException
          step({p}) throws IllegalArgumentException
          open({p}) throws IllegalArgumentException
          claim({p}) throws IllegalArgumentException
          skip({p}) throws IllegalArgumentException
          fetch(0, {p}) throws IllegalArgumentException
          registration({p}, 0) throws IllegalArgumentException
          count(2) = 1
          count(3) = 0
          """.replace("{p}", String.valueOf(number)));
    }
    // 55 is the letters 1, 2; 1513 is 1, 2, 2; 29 is 2, 1.
    begins(runs, 0, 0, true);
    begins(runs, 0, 531440, true);
    begins(runs, 1, 55, true);
    begins(runs, 55, 55, true);
    begins(runs, 55, 1513, true);
    begins(runs, 2, 55, false);
    begins(runs, 55, 1, false);
    begins(runs, 29, 55, false);
    begins(runs, 28, 55, false);
    begins(runs, 1, 0, false);
    begins(runs, 531440, 531440, true);
    begins(runs, 531440, 19682, false);
    begins(runs, 19682, 531440, true);
    runs.end();
    if (!everyNumberIsRight() || !everyPairIsRight()) {
      System.exit(1);
    }
  }

  /** "a number is a PATH if it is 0 to 531440 and no digit 0 .. stands before another digit" */
  private static boolean everyNumberIsRight() {
    boolean[] isPath = new boolean[531441];
    int[] letters = new int[BASE - 1];
    Arrays.setAll(letters, i -> i + 1);
    for (List<Integer> path : pathsOf(letters)) {
      isPath[numberOf(path)] = true;
    }
    ScopeKeeper keeper = new ScopeKeeper();
    // The numbers behind are enough to have five letters, the last of them 1.
    for (int number = -BASE * BASE; number < 2 * isPath.length; number++) {
      if (number % MOST_CALLS == 0) {
        keeper = new ScopeKeeper();
      }
      boolean due = number >= 0 && number < isPath.length && isPath[number];
      if (isTakenAsPath(keeper, number) != due) {
        System.out.println(number + " is taken as a path: " + !due);
        return false;
      }
    }
    return true;
  }

  /** By a step in an empty row, which is refused in another way if the number is no path. */
  private static boolean isTakenAsPath(ScopeKeeper keeper, int number) {
    try {
      keeper.step(number);
      throw new AssertionError("there is no job in the row of " + number);
    } catch (IllegalArgumentException e) {
      return false;
    } catch (NoSuchElementException e) {
      return true;
    }
  }

  /** "PATH x BEGINS y if y's first LETTERS are those of x (also if x is y, or empty)" */
  private static boolean everyPairIsRight() {
    List<List<Integer>> paths = pathsOf(SOME_LETTERS);
    for (List<Integer> x : paths) {
      for (List<Integer> y : paths) {
        boolean due = x.size() <= y.size() && y.subList(0, x.size()).equals(x);
        if (isBroadEnough(numberOf(x), numberOf(y)) != due
            || isControlled(numberOf(x), numberOf(y)) != due) {
          System.out.println(x + " begins " + y + ": " + !due);
          return false;
        }
      }
    }
    return true;
  }

  private static boolean isBroadEnough(int broad, int scope) {
    ScopeKeeper keeper = new ScopeKeeper();
    keeper.serve(0, 0, broad, 0, 0);
    keeper.job(0, scope, 0);
    keeper.step(scope);
    return keeper.outcome(0) != -1;
  }

  private static boolean isControlled(int scope, int path) {
    ScopeKeeper keeper = new ScopeKeeper();
    keeper.job(0, scope, 0);
    keeper.step(scope);
    keeper.step(scope);
    keeper.open(path);
    return keeper.count(10) == 1;
  }

  /** All rows of 0 to 4 of these letters. */
  private static List<List<Integer>> pathsOf(int[] letters) {
    List<List<Integer>> paths = new ArrayList<>();
    paths.add(List.of());
    int shorter = 0;
    for (int length = 1; length <= MOST_LETTERS; length++) {
      int end = paths.size();
      for (; shorter < end; shorter++) {
        for (int letter : letters) {
          List<Integer> longer = new ArrayList<>(paths.get(shorter));
          longer.add(letter);
          paths.add(longer);
        }
      }
    }
    return paths;
  }

  private static int numberOf(List<Integer> path) {
    int number = 0;
    int power = 1;
    for (int letter : path) {
      number += letter * power;
      power *= BASE;
    }
    return number;
  }

  private static void begins(Runs runs, int start, int path, boolean does) {
    runs.run(start + " begins " + path + ": " + does,
        "serve(0, 0, " + start + ", 0, 0)",
        "job(0, " + path + ", 0) = 0",
        "step(" + path + ") = 0",
        "outcome(0) = " + (does ? 0 : -1));
    runs.run("the scope " + start + " takes in " + path + ": " + does,
        "job(0, " + start + ", 0) = 0",
        "step(" + start + ") = 0",
        "step(" + start + ") = 0",
        "open(" + path + ") = 0",
        "count(10) = " + (does ? 1 : 0));
  }
}

import java.util.ArrayList;
import java.util.List;

/**
 * Long runs of calls, the same ones each time. After each call it looks at what must hold in
 * every state, that a refused call threw what the document names for it and changed nothing,
 * that the trace tells the states of all workers and which jobs ended, and that its count grows
 * by all that happened, kept or not. With all that is asked, an object gets more calls here than
 * the 512 that the document speaks of: the class has no such limit, so none is kept to.
 */
public final class RandomRunsTest {
  private static final int RUNS = 400;
  private static final int CALLS = 512;
  private static final int KEPT = 60;
  private static final int[] NUMBERS = {0, 1, 1, 28, 28, 757, 2, 55, 26, 27, 531440, -1};

  private long seed;
  private ScopeKeeper keeper;
  private final int[] statesBefore = new int[41];
  private final int[] controllersBefore = new int[8];
  private final boolean[] thereBefore = new boolean[8];
  private int endedBefore = 0;
  private int happened = 0;
  private final List<String> calls = new ArrayList<>();

  public static void main(String[] args) {
    int wrong = 0;
    for (int run = 0; run < RUNS && wrong < 5; run++) {
      RandomRunsTest test = new RandomRunsTest(run);
      String fault = test.firstFault();
      if (fault != null) {
        wrong++;
        System.out.println("run " + run + ": " + fault + " after " + test.calls);
      }
    }
    if (wrong > 0) {
      System.exit(1);
    }
  }

  private RandomRunsTest(int run) {
    seed = 7919L * run + 17;
  }

  private String firstFault() {
    keeper = new ScopeKeeper();
    String before = state();
    for (int i = 0; i < CALLS; i++) {
      String thrown = callSome();
      String after = state();
      if (!thrown.isEmpty() && !after.equals(before)) {
        return "a refused call changed the state: " + before + " to " + after;
      }
      String fault = faultOfState();
      if (fault != null) {
        return fault;
      }
      before = after;
    }
    return null;
  }

  private int below(int bound) {
    seed = seed * 6364136223846793005L + 1442695040888963407L;
    return (int) Math.floorMod(seed >>> 33, (long) bound);
  }

  private int somePath() {
    return NUMBERS[below(NUMBERS.length)];
  }

  /** Makes a call: the name of what it threw, or nothing. */
  private String callSome() {
    int a = below(9) - (below(20) == 0 ? 1 : 0);
    int b = below(4);
    int path = somePath();
    String allowed = "IllegalArgumentException ";
    String name = "";
    try {
      switch (below(16)) {
        case 0 -> {
          name = "serve(" + (a % 5) + ", " + b + ", 0, " + (b % 3 == 0 ? 1 : 0) + ", " + b + ")";
          keeper.serve(a % 5, b, 0, b % 3 == 0 ? 1 : 0, b);
        }
        case 1 -> {
          name = "network(" + (a > 1) + ", " + b + ")";
          allowed = "";
          keeper.network(a > 1, b);
        }
        case 2, 3 -> {
          name = "job(" + (a % 4) + ", " + path + ", " + b + ")";
          allowed += "IllegalStateException";
          keeper.job(a % 4, path, b);
        }
        case 4, 5, 6, 7, 8 -> {
          name = "step(" + path + ")";
          allowed += "NoSuchElementException";
          keeper.step(path);
        }
        case 9, 10 -> {
          name = "open(" + path + ")";
          allowed += "IllegalStateException";
          keeper.open(path);
        }
        case 11, 12 -> {
          name = "close(" + a + ")";
          allowed = "NoSuchElementException";
          keeper.close(a);
        }
        case 13 -> {
          name = "claim(" + path + ")";
          allowed += "NoSuchElementException IllegalStateException";
          keeper.claim(path);
        }
        case 14 -> {
          name = "skip(" + path + ")";
          allowed += "NoSuchElementException IllegalStateException";
          keeper.skip(path);
        }
        default -> {
          name = "fetch(" + a + ", " + path + ")";
          allowed += "NoSuchElementException UnsupportedOperationException";
          keeper.fetch(a, path);
        }
      }
      calls.add(name);
      return "";
    } catch (RuntimeException e) {
      calls.add(name);
      String thrown = e.getClass().getSimpleName();
      if (!List.of(allowed.trim().split(" ")).contains(thrown)) {
        throw new AssertionError(calls + " threw " + e, e);
      }
      return thrown;
    }
  }

  private String state() {
    StringBuilder all = new StringBuilder();
    for (int what = 0; what <= 34; what++) {
      if (what <= 5 || what >= 10 && what <= 17 || what >= 20 && what <= 27 || what >= 30) {
        all.append(keeper.count(what)).append(' ');
      }
    }
    for (int k = 0; k < keeper.count(0); k++) {
      for (int what = 0; what <= 4; what++) {
        all.append(keeper.registration(keeper.count(30 + k), what)).append(' ');
      }
    }
    for (int w = 1; w <= keeper.count(1); w++) {
      for (int what = 0; what <= 23; what++) {
        if (what <= 4 || what >= 10 && what <= 13 || what >= 20) {
          all.append(keeper.worker(w, what)).append(' ');
        }
      }
    }
    for (int j = 0; j < keeper.count(3); j++) {
      all.append(keeper.outcome(j)).append(' ');
    }
    for (int k = 0; k < Math.min(keeper.count(5), KEPT); k++) {
      all.append(keeper.trace(k)).append(' ');
    }
    return all.toString();
  }

  private String faultOfState() {
    String fault = faultOfRegistrations();
    if (fault == null) {
      fault = faultOfClients();
    }
    if (fault == null && keeper.count(5) <= KEPT) {
      fault = faultOfTrace();
    }
    happened += happenedInCall();
    if (fault == null && keeper.count(5) != happened) {
      fault = "the trace has " + keeper.count(5) + " numbers, but there happened " + happened;
    }
    return fault;
  }

  /** How many numbers of the trace the last call made, seen from what it changed. */
  private int happenedInCall() {
    int made = 0;
    for (int w = 1; w <= keeper.count(1); w++) {
      int state = keeper.worker(w, 0);
      // A worker becomes redundant from any state, and comes to the others one by one.
      made += state == 4 ? Math.min(1, state - statesBefore[w]) : state - statesBefore[w];
      statesBefore[w] = state;
    }
    for (int c = 0; c < 8; c++) {
      int controller = keeper.count(10 + c);
      boolean there = keeper.count(20 + c) >= 0;
      made += there && thereBefore[c] && controller != controllersBefore[c] ? 1 : 0;
      controllersBefore[c] = controller;
      thereBefore[c] = there;
    }
    int ended = keeper.count(3) - keeper.count(4);
    made += ended - endedBefore;
    endedBefore = ended;
    return made;
  }

  private String faultOfRegistrations() {
    int held = 0;
    for (int k = 0; k < keeper.count(0); k++) {
      int scope = keeper.count(30 + k);
      int installing = keeper.registration(scope, 1);
      int waiting = keeper.registration(scope, 2);
      int active = keeper.registration(scope, 3);
      held += (installing > 0 ? 1 : 0) + (waiting > 0 ? 1 : 0) + (active > 0 ? 1 : 0);
      if (installing > 0 && keeper.worker(installing, 0) != 1
          || waiting > 0 && keeper.worker(waiting, 0) != 2
          || active > 0 && keeper.worker(active, 0) != 3) {
        return "a worker of scope " + scope + " has another state";
      }
      if (installing + active == 0 || waiting > 0 && active == 0) {
        return "scope " + scope + " has no worker, or none is active though one waits";
      }
      boolean used = active > 0 && keeper.worker(active, 3) > 0;
      if (!used && (waiting > 0 || keeper.registration(scope, 4) == 1)) {
        return "scope " + scope + " should have been activated or cleared";
      }
    }
    int living = 0;
    for (int w = 1; w <= keeper.count(1); w++) {
      living += keeper.worker(w, 0) == 4 ? 0 : 1;
    }
    return living == held ? null : "there are workers without a registration";
  }

  private String faultOfClients() {
    int there = 0;
    for (int c = 0; c < 8; c++) {
      int path = keeper.count(20 + c);
      int controller = keeper.count(10 + c);
      there += path < 0 ? 0 : 1;
      if (path < 0 && controller != 0) {
        return "client " + c + " is controlled though it is not there";
      }
      if (controller > 0 && !isActiveSomewhere(controller)) {
        return "client " + c + " is controlled by one that is not active";
      }
    }
    return there == keeper.count(2) ? null : "another number of clients";
  }

  private boolean isActiveSomewhere(int w) {
    for (int k = 0; k < keeper.count(0); k++) {
      if (keeper.registration(keeper.count(30 + k), 3) == w) {
        return true;
      }
    }
    return false;
  }

  private String faultOfTrace() {
    int[] states = new int[41];
    int ended = 0;
    for (int k = 0; k < keeper.count(5); k++) {
      int number = keeper.trace(k);
      if (number >= 1000) {
        ended++;
        if (keeper.outcome(number - 1000) == 0) {
          return "a job that the trace tells as ended is not";
        }
      } else if (number > 0) {
        int state = number % 8;
        int before = states[number / 8];
        boolean fits = state == 4 ? before > 0 && before < 4 : state == before + 1;
        if (!fits) {
          return "worker " + number / 8 + " came from state " + before + " to " + state;
        }
        states[number / 8] = state;
      }
    }
    for (int w = 1; w <= keeper.count(1); w++) {
      if (states[w] != keeper.worker(w, 0)) {
        return "worker " + w + " has another state than the trace tells";
      }
    }
    return ended == keeper.count(3) - keeper.count(4) ? null : "other jobs ended than the trace tells";
  }
}

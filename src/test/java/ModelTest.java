import java.lang.reflect.Method;
import java.util.ArrayList;
import java.util.List;
import java.util.Random;
import java.util.Set;
import java.util.TreeSet;

/**
 * Runs of 512 calls, the same ones each time, made on a new ScopeKeeper and a new Model at once:
 * both answer or throw the same in every call. A run does all sorts of calls first, in a mixture
 * of its own, and asks for what there is with those that are left. At its end the test looks that
 * the runs came to every exception, every outcome and every limit that the document names.
 */
public final class ModelTest {
  private static final int RUNS = 1500;
  private static final int CALLS = 512;

  // By letters: none; 1; 1 1; 1 1 1; 1 1 1 1; 2; 1 2; 2 1; 26; 26 26 26 26.
  private static final int[] PATHS = {0, 1, 28, 757, 20440, 2, 55, 29, 26, 531440};
  private static final int[] NO_PATHS = {-1, 27, 729, 730, 531441, 551881, Integer.MIN_VALUE,
    Integer.MAX_VALUE};
  private static final String[] CALLED = {"serve", "network", "job", "step", "open", "close",
    "claim", "skip", "fetch", "registration", "worker", "outcome", "trace", "count"};
  private static final int JOB = 2;
  private static final int STEP = 3;
  private static final int FIRST_ASKED = 9;

  private static final Set<String> SEEN = new TreeSet<>();

  private final Random random;
  private final List<Integer> scopes = new ArrayList<>();
  private final int[] weights = new int[CALLED.length];
  /** Only a run that does little but register comes to the most workers, and on from there. */
  private final boolean hurried;
  private final int oddly;
  private final int contents;
  private final int downs;
  private final int flaws;

  public static void main(String[] args) {
    int wrong = 0;
    for (int run = 0; run < RUNS && wrong < 5; run++) {
      String fault = new ModelTest(run).firstFault();
      if (fault != null) {
        wrong++;
        System.out.println("run " + run + ": " + fault);
      }
    }
    Set<String> missing = due();
    missing.removeAll(SEEN);
    if (wrong == 0 && !missing.isEmpty()) {
      wrong++;
      System.out.println("no run came to " + missing);
    }
    if (wrong > 0) {
      System.exit(1);
    }
  }

  private ModelTest(int run) {
    random = new Random(run);
    hurried = run % 4 == 0;
    int scopeCount = 1 + random.nextInt(hurried ? 2 : 7);
    for (int i = 0; i < scopeCount; i++) {
      scopes.add(oneOf(PATHS));
    }
    for (int i = 0; i < weights.length; i++) {
      weights[i] = i >= FIRST_ASKED ? 1 : 1 + random.nextInt(8);
    }
    // Most jobs take two steps, and a run that does not take them soon fills its rows.
    weights[STEP] += weights[JOB] + random.nextInt(8);
    weights[JOB] += hurried ? 20 : 0;
    weights[STEP] += hurried ? 40 : 0;
    oddly = 1 + random.nextInt(40);
    contents = 1 + random.nextInt(4);
    downs = hurried ? 100 : 2 + random.nextInt(9);
    flaws = 1 + random.nextInt(9);
  }

  private String firstFault() {
    ScopeKeeper keeper = new ScopeKeeper();
    Model model = new Model();
    List<String> calls = new ArrayList<>();
    int doing = hurried ? CALLS - 100 : 30 + random.nextInt(CALLS - 60);
    for (int i = 0; i < CALLS; i++) {
      String call = someCall(i < doing ? 0 : FIRST_ASKED);
      calls.add(call);
      String got = Runs.answer(keeper, call);
      String due = Runs.answer(model, call);
      if (!got.equals(due)) {
        return call + " was: " + got + "; due: " + due + " after " + calls;
      }
      note(call, got);
    }
    return null;
  }

  // ---- what is called

  private String someCall(int from) {
    int all = 0;
    for (int i = from; i < weights.length; i++) {
      all += weights[i];
    }
    int left = random.nextInt(all);
    int i = from;
    while (left >= weights[i]) {
      left -= weights[i];
      i++;
    }
    return CALLED[i] + "(" + argumentsOf(CALLED[i]) + ")";
  }

  private String argumentsOf(String name) {
    return switch (name) {
      case "serve" -> joined(below(4), below(contents), broad(), flaw(), below(4));
      case "network" -> joined(random.nextInt(downs) != 0, random.nextInt());
      case "job" -> joined(kind(), scope(), below(4));
      case "step", "claim", "skip" -> joined(scope());
      case "open" -> joined(path());
      case "close" -> joined(below(8));
      case "fetch" -> joined(below(8), path());
      case "registration" -> joined(scope(), below(5));
      case "worker" -> joined(1 + below(40), 10 * random.nextInt(3) + below(5));
      case "outcome", "trace" -> joined(below(60));
      default -> joined(10 * random.nextInt(4) + below(8));
    };
  }

  private static String joined(Object... words) {
    StringBuilder all = new StringBuilder();
    for (Object word : words) {
      all.append(all.length() == 0 ? "" : ", ").append(word);
    }
    return all.toString();
  }

  private boolean isOdd() {
    return random.nextInt(4 * oddly) == 0;
  }

  /** 0 to bound - 1, but now and then a number just outside, or at the end of an int. */
  private int below(int bound) {
    if (!isOdd()) {
      return random.nextInt(bound);
    }
    return random.nextBoolean() ? oneOf(Runs.ENDS) : random.nextBoolean() ? bound : -1;
  }

  private int kind() {
    return random.nextInt(hurried ? 9 : 3) == 0 ? below(3) : random.nextInt(hurried ? 1 : 2);
  }

  private int flaw() {
    return isOdd() ? below(2) : random.nextInt(flaws) == 0 ? 1 : 0;
  }

  private int broad() {
    return isOdd() ? path() : !hurried && random.nextInt(5) == 0 ? scope() : 0;
  }

  private int scope() {
    return isOdd() ? path() : scopes.get(random.nextInt(scopes.size()));
  }

  private int path() {
    if (isOdd()) {
      return oneOf(NO_PATHS);
    }
    return random.nextInt(3) == 0 ? 1 + random.nextInt(26) : oneOf(PATHS);
  }

  private int oneOf(int[] numbers) {
    return numbers[random.nextInt(numbers.length)];
  }

  // ---- what the runs came to

  private static void note(String call, String got) {
    String name = call.substring(0, call.indexOf('('));
    if (got.startsWith("throws") || name.equals("outcome")) {
      SEEN.add(name + " " + got);
    } else if (name.equals("count")) {
      SEEN.add(call + " " + got);
    }
  }

  private static Set<String> due() {
    Set<String> due = new TreeSet<>();
    for (Method method : ScopeKeeper.class.getDeclaredMethods()) {
      for (Class<?> thrown : method.getExceptionTypes()) {
        due.add(method.getName() + " throws " + thrown.getSimpleName());
      }
    }
    for (int outcome = -5; outcome <= 2; outcome++) {
      due.add("outcome = " + outcome);
    }
    for (int registrations = 0; registrations <= 5; registrations++) {
      due.add("count(0) = " + registrations);
    }
    for (int clients = 0; clients <= 8; clients++) {
      due.add("count(2) = " + clients);
    }
    due.add("count(1) = 40");
    due.add("count(3) = 60");
    due.add("count(5) = 60");
    due.add("count(5) = 120");
    return due;
  }
}

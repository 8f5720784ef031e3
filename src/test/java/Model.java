import java.util.ArrayList;
import java.util.LinkedHashMap;
import java.util.LinkedHashSet;
import java.util.List;
import java.util.Map;
import java.util.NoSuchElementException;
import java.util.TreeMap;

/**
 * The document written down a second time: what ModelTest holds the class against. It has the
 * Java library, and holds what it can otherwise than the class does, so that one slip is not made
 * twice: paths as texts, and rows of jobs, clients and caches as the library's lists and maps.
 */
public final class Model {
  private static final class Script {
    int content;
    String broad = "";
    int flaw;
    int mode;
  }

  private static final class Worker {
    int number;
    int content;
    int flaw;
    int mode;
    int state;
    boolean skips;
    final LinkedHashMap<Integer, Integer> cache = new LinkedHashMap<>();
  }

  private static final class Registration {
    int scope;
    int script;
    Worker installing;
    Worker waiting;
    Worker active;
    boolean leaving;
  }

  private static final class Client {
    int number;
    int path;
    Worker controller;
  }

  private static final class Job {
    int number;
    int kind;
    int scope;
    int script;
    boolean begun;
    int outcome;
  }

  private final List<Script> scripts = new ArrayList<>();
  private boolean up = true;
  private int net = 0;
  private final List<Worker> workers = new ArrayList<>();
  private final Map<Integer, Registration> registrations = new LinkedHashMap<>();
  private final TreeMap<Integer, Client> clients = new TreeMap<>();
  private final List<Job> jobs = new ArrayList<>();
  private final Map<Integer, List<Job>> rows = new LinkedHashMap<>();
  private final List<Integer> trace = new ArrayList<>();

  public Model() {
    for (int s = 0; s < 4; s++) {
      scripts.add(new Script());
    }
  }

  // ---- Terms

  /** The letters of a path as digits to base 27, the first one first; null if it is none. */
  private static String letters(int number) {
    if (number < 0 || number > 531440) {
      return null;
    }
    if (number == 0) {
      return "";
    }
    String digits = new StringBuilder(Integer.toString(number, 27)).reverse().toString();
    return digits.contains("0") ? null : digits;
  }

  private static void needPath(int number) {
    if (letters(number) == null) {
      throw new IllegalArgumentException();
    }
  }

  private Registration registrationFor(int path) {
    Registration found = null;
    for (Registration r : registrations.values()) {
      if (!r.leaving && r.active != null && letters(path).startsWith(letters(r.scope))
          && (found == null || letters(r.scope).length() > letters(found.scope).length())) {
        found = r;
      }
    }
    return found;
  }

  private static Worker newest(Registration r) {
    if (r.installing != null) {
      return r.installing;
    }
    return r.waiting != null ? r.waiting : r.active;
  }

  private List<Client> controlled(Worker worker) {
    List<Client> all = new ArrayList<>();
    for (Client client : clients.values()) {
      if (worker != null && client.controller == worker) {
        all.add(client);
      }
    }
    return all;
  }

  private void comes(Worker worker, int state) {
    if (worker != null) {
      worker.state = state;
      trace.add(8 * worker.number + state);
    }
  }

  private void controls(Worker worker, Client client) {
    if (client.controller != worker) {
      client.controller = worker;
      trace.add(-(64 * client.number + worker.number) - 1);
    }
  }

  private void activation(Registration r) {
    if (r.waiting == null) {
      return;
    }
    if (r.active == null || r.waiting.skips || controlled(r.active).isEmpty()) {
      List<Client> taken = controlled(r.active);
      comes(r.active, 4);
      r.active = r.waiting;
      r.waiting = null;
      comes(r.active, 3);
      for (Client client : taken) {
        controls(r.active, client);
      }
    }
  }

  private void clearing(Registration r) {
    if (r.leaving && r.installing == null && controlled(r.active).isEmpty()) {
      comes(r.waiting, 4);
      comes(r.active, 4);
      registrations.remove(r.scope);
    }
  }

  private void loses(Worker worker) {
    for (Registration r : new ArrayList<>(registrations.values())) {
      if (worker != null && r.active == worker) {
        clearing(r);
        if (registrations.containsValue(r)) {
          activation(r);
        }
        return;
      }
    }
  }

  // ---- A STEP

  private int register(Job job) {
    Script script = scripts.get(job.script);
    if (!letters(job.scope).startsWith(script.broad)) {
      return -1;
    }
    if (!up) {
      return -4;
    }
    Registration r = registrations.get(job.scope);
    if (r == null && registrations.size() == 5 || workers.size() == 40) {
      return -5;
    }
    if (r != null) {
      r.leaving = false;
      if (r.script == job.script && newest(r).content == script.content) {
        return 2;
      }
    } else {
      r = new Registration();
      r.scope = job.scope;
      registrations.put(job.scope, r);
    }
    r.script = job.script;
    install(r);
    return 0;
  }

  private int update(Job job) {
    Registration r = registrations.get(job.scope);
    if (r == null || r.leaving) {
      return -2;
    }
    if (!up) {
      return -4;
    }
    if (workers.size() == 40) {
      return -5;
    }
    if (newest(r).content == scripts.get(r.script).content) {
      return 2;
    }
    install(r);
    return 0;
  }

  private int unregister(Job job) {
    Registration r = registrations.get(job.scope);
    if (r == null || r.leaving) {
      return -2;
    }
    r.leaving = true;
    clearing(r);
    return 1;
  }

  private void install(Registration r) {
    Script script = scripts.get(r.script);
    Worker worker = new Worker();
    workers.add(worker);
    worker.number = workers.size();
    worker.content = script.content;
    worker.flaw = script.flaw;
    worker.mode = script.mode;
    r.installing = worker;
    comes(worker, 1);
  }

  private int anotherStep(Job job) {
    Registration r = registrations.get(job.scope);
    Worker worker = r.installing;
    r.installing = null;
    if (worker.flaw == 1) {
      comes(worker, 4);
      if (r.waiting == null && r.active == null) {
        registrations.remove(r.scope);
      }
      return -3;
    }
    comes(r.waiting, 4);
    r.waiting = worker;
    comes(worker, 2);
    activation(r);
    return 1;
  }

  // ---- Promises 2 to 15

  public void serve(int s, int content, int broad, int flaw, int mode) {
    if (s < 0 || s > 3 || letters(broad) == null || flaw < 0 || flaw > 1 || mode < 0 || mode > 3) {
      throw new IllegalArgumentException();
    }
    Script script = scripts.get(s);
    script.content = content;
    script.broad = letters(broad);
    script.flaw = flaw;
    script.mode = mode;
  }

  public boolean network(boolean isUp, int answers) {
    boolean was = up;
    up = isUp;
    net = answers;
    return was;
  }

  public int job(int kind, int scope, int script) {
    if (kind < 0 || kind > 2 || letters(scope) == null
        || kind == 0 && (script < 0 || script > 3)) {
      throw new IllegalArgumentException();
    }
    Job job = new Job();
    job.kind = kind;
    job.scope = scope;
    job.script = kind == 0 ? script : 0;
    List<Job> row = rows.computeIfAbsent(scope, any -> new ArrayList<>());
    if (!row.isEmpty()) {
      Job last = row.get(row.size() - 1);
      if (last.kind == job.kind && last.script == job.script && !last.begun) {
        return last.number;
      }
    }
    if (row.size() == 4 || jobs.size() == 60) {
      throw new IllegalStateException();
    }
    job.number = jobs.size();
    jobs.add(job);
    row.add(job);
    return job.number;
  }

  public int step(int scope) {
    needPath(scope);
    List<Job> row = rows.getOrDefault(scope, List.of());
    if (row.isEmpty()) {
      throw new NoSuchElementException();
    }
    Job job = row.get(0);
    if (job.begun) {
      job.outcome = anotherStep(job);
    } else if (job.kind == 0) {
      job.outcome = register(job);
    } else {
      job.outcome = job.kind == 1 ? update(job) : unregister(job);
    }
    job.begun = true;
    if (job.outcome != 0) {
      row.remove(0);
      trace.add(1000 + job.number);
    }
    return job.number;
  }

  public int open(int path) {
    needPath(path);
    if (clients.size() == 8) {
      throw new IllegalStateException();
    }
    Client client = new Client();
    while (clients.containsKey(client.number)) {
      client.number++;
    }
    client.path = path;
    Registration r = registrationFor(path);
    client.controller = r == null ? null : r.active;
    clients.put(client.number, client);
    return client.number;
  }

  public int close(int c) {
    Client client = needClient(c);
    clients.remove(c);
    loses(client.controller);
    return numberOf(client.controller);
  }

  public int claim(int scope) {
    Registration r = needRegistration(scope);
    if (r.active == null) {
      throw new IllegalStateException();
    }
    int changed = 0;
    LinkedHashSet<Worker> before = new LinkedHashSet<>();
    for (Client client : clients.values()) {
      if (registrationFor(client.path) == r) {
        before.add(client.controller);
        changed += client.controller == r.active ? 0 : 1;
        controls(r.active, client);
      }
    }
    for (Worker worker : before) {
      loses(worker);
    }
    return changed;
  }

  public int skip(int scope) {
    Registration r = needRegistration(scope);
    Worker worker = r.waiting == null ? r.installing : r.waiting;
    if (worker == null) {
      throw new IllegalStateException();
    }
    worker.skips = true;
    activation(r);
    return worker.number;
  }

  public int fetch(int c, int path) {
    needPath(path);
    Worker worker = needClient(c).controller;
    int mode = worker == null ? 0 : worker.mode;
    if (mode == 3) {
      return worker.content;
    }
    if (mode == 1 && worker.cache.containsKey(path)) {
      return worker.cache.get(path);
    }
    if (mode == 2 && !up && worker.cache.containsKey(path)) {
      return worker.cache.get(path);
    }
    if (!up) {
      throw new UnsupportedOperationException();
    }
    if (mode != 0) {
      if (worker.cache.remove(path) == null && worker.cache.size() == 4) {
        worker.cache.remove(worker.cache.keySet().iterator().next());
      }
      worker.cache.put(path, net + path);
    }
    return net + path;
  }

  public int registration(int scope, int what) {
    if (letters(scope) == null || what < 0 || what > 4) {
      throw new IllegalArgumentException();
    }
    Registration r = needRegistration(scope);
    return new int[] {r.script, numberOf(r.installing), numberOf(r.waiting), numberOf(r.active),
      r.leaving ? 1 : 0}[what];
  }

  public int worker(int w, int what) {
    boolean known = what >= 0 && what <= 4 || what >= 10 && what <= 13 || what >= 20 && what <= 23;
    if (!known) {
      throw new IllegalArgumentException();
    }
    if (w < 1 || w > workers.size()) {
      throw new IndexOutOfBoundsException();
    }
    Worker asked = workers.get(w - 1);
    if (what < 10) {
      return new int[] {asked.state, asked.content, asked.mode, controlled(asked).size(),
        asked.cache.size()}[what];
    }
    List<Integer> told = new ArrayList<>(what < 20 ? asked.cache.keySet() : asked.cache.values());
    return what % 10 < told.size() ? told.get(what % 10) : 0;
  }

  public int outcome(int j) {
    if (j < 0 || j >= jobs.size()) {
      throw new IndexOutOfBoundsException();
    }
    return jobs.get(j).outcome;
  }

  public int trace(int k) {
    if (k < 0 || k >= trace.size() || k >= 60) {
      throw new IndexOutOfBoundsException();
    }
    return trace.get(k);
  }

  public int count(int what) {
    if (what >= 0 && what <= 5) {
      int waitingJobs = 0;
      for (List<Job> row : rows.values()) {
        waitingJobs += row.size();
      }
      return new int[] {registrations.size(), workers.size(), clients.size(), jobs.size(),
        waitingJobs, trace.size()}[what];
    }
    if (what >= 10 && what <= 17) {
      Client client = clients.get(what - 10);
      return client == null ? 0 : numberOf(client.controller);
    }
    if (what >= 20 && what <= 27) {
      Client client = clients.get(what - 20);
      return client == null ? -1 : client.path;
    }
    if (what >= 30 && what <= 34) {
      List<Integer> scopes = new ArrayList<>(registrations.keySet());
      return what - 30 < scopes.size() ? scopes.get(what - 30) : -1;
    }
    throw new IllegalArgumentException();
  }

  private static int numberOf(Worker worker) {
    return worker == null ? 0 : worker.number;
  }

  private Client needClient(int c) {
    if (!clients.containsKey(c)) {
      throw new NoSuchElementException();
    }
    return clients.get(c);
  }

  private Registration needRegistration(int scope) {
    needPath(scope);
    if (!registrations.containsKey(scope)) {
      throw new NoSuchElementException();
    }
    return registrations.get(scope);
  }
}

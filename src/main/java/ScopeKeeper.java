import java.util.NoSuchElementException;

/**
 * Stands between pages and the network: registrations by scope, their jobs and workers,
 * the pages that are controlled, and what is answered out of caches.
 */
public final class ScopeKeeper {
  private static final int BASE = 27;
  private static final int MOST_LETTERS = 4;
  private static final int LAST_PATH = 531440;

  private static final int SCRIPT_LIMIT = 4;
  private static final int WORKER_LIMIT = 40;
  private static final int REGISTRATION_LIMIT = 5;
  private static final int CLIENT_LIMIT = 8;
  private static final int JOB_LIMIT = 60;
  private static final int ROW_LIMIT = 4;
  private static final int CACHE_LIMIT = 4;
  private static final int TRACE_LIMIT = 60;

  private static final int NO_FLAW = 0;
  private static final int FLAWED = 1;

  private static final int MODE_NETWORK = 0;
  private static final int MODE_CACHE_FIRST = 1;
  private static final int MODE_CONTENT = 3;

  private static final int STATE_INSTALLING = 1;
  private static final int STATE_INSTALLED = 2;
  private static final int STATE_ACTIVATED = 3;
  private static final int STATE_REDUNDANT = 4;

  private static final int KIND_REGISTER = 0;
  private static final int KIND_UPDATE = 1;
  private static final int KIND_UNREGISTER = 2;

  private static final int NOT_ENDED = 0;
  private static final int DONE = 1;
  private static final int UNCHANGED = 2;
  private static final int OUT_OF_BROAD = -1;
  private static final int NOT_REGISTERED = -2;
  private static final int INSTALL_FAILED = -3;
  private static final int NETWORK_DOWN = -4;
  private static final int NO_ROOM = -5;

  private final Script[] scripts = new Script[SCRIPT_LIMIT];
  private boolean networkUp = true;
  private int net = 0;
  private final Worker[] workers = new Worker[WORKER_LIMIT];
  private int workerCount = 0;
  private final Registration[] registrations = new Registration[REGISTRATION_LIMIT];
  private int registrationCount = 0;
  private final Client[] clients = new Client[CLIENT_LIMIT];
  // Made once and filled by each claim, so that claims make no objects.
  private final Worker[] claimedFrom = new Worker[CLIENT_LIMIT];
  private final Job[] jobs = new Job[JOB_LIMIT];
  private int jobCount = 0;
  private final Trace happened = new Trace();

  public ScopeKeeper() {
    for (int s = 0; s < SCRIPT_LIMIT; s++) {
      scripts[s] = new Script();
    }
    for (int c = 0; c < CLIENT_LIMIT; c++) {
      clients[c] = new Client();
    }
  }

  public void serve(int s, int content, int broad, int flaw, int mode)
      throws IllegalArgumentException {
    if (!isScript(s) || !isPath(broad)) {
      throw new IllegalArgumentException("no such script, or broad is no path");
    }
    if (flaw < NO_FLAW || flaw > FLAWED || mode < MODE_NETWORK || mode > MODE_CONTENT) {
      throw new IllegalArgumentException("no such flaw or mode");
    }
    Script script = scripts[s];
    script.content = content;
    script.broad = broad;
    script.flaw = flaw;
    script.mode = mode;
  }

  public boolean network(boolean up, int net) {
    boolean wasUp = networkUp;
    networkUp = up;
    this.net = net;
    return wasUp;
  }

  public int job(int kind, int scope, int script)
      throws IllegalArgumentException, IllegalStateException {
    if (kind < KIND_REGISTER || kind > KIND_UNREGISTER) {
      throw new IllegalArgumentException("no such kind");
    }
    refuseNoPath(scope);
    if (kind == KIND_REGISTER && !isScript(script)) {
      throw new IllegalArgumentException("no such script");
    }
    int ownScript = kind == KIND_REGISTER ? script : 0;
    Job last = lastOfRow(scope);
    if (last != null && !last.begun && last.kind == kind && last.script == ownScript) {
      return last.number;
    }
    if (rowLength(scope) >= ROW_LIMIT || jobCount >= JOB_LIMIT) {
      throw new IllegalStateException("no room for another job");
    }
    Job added = new Job(jobCount, kind, scope, ownScript);
    jobs[jobCount] = added;
    jobCount++;
    return added.number;
  }

  public int step(int scope) throws IllegalArgumentException, NoSuchElementException {
    refuseNoPath(scope);
    Job first = firstOfRow(scope);
    if (first == null) {
      throw new NoSuchElementException("no job in the row");
    }
    int outcome = first.begun ? finishInstall(scope) : beginJob(first);
    first.begun = true;
    if (outcome != NOT_ENDED) {
      first.outcome = outcome;
      happened.jobEnds(first.number);
    }
    return first.number;
  }

  public int open(int path) throws IllegalArgumentException, IllegalStateException {
    refuseNoPath(path);
    int c = leastFreeClient();
    if (c >= CLIENT_LIMIT) {
      throw new IllegalStateException("no room for another client");
    }
    Registration owner = registrationFor(path);
    Client opened = clients[c];
    opened.there = true;
    opened.path = path;
    opened.controller = owner == null ? null : owner.active;
    return c;
  }

  public int close(int c) throws NoSuchElementException {
    refuseNoClient(c);
    Client closed = clients[c];
    Worker before = closed.controller;
    closed.there = false;
    closed.controller = null;
    settleAfterLoss(before);
    return numberOf(before);
  }

  public int claim(int scope)
      throws IllegalArgumentException, NoSuchElementException, IllegalStateException {
    Registration claiming = needRegistration(scope);
    if (claiming.active == null) {
      throw new IllegalStateException("no active worker");
    }
    int changed = 0;
    for (int c = 0; c < CLIENT_LIMIT; c++) {
      Client client = clients[c];
      if (client.there && client.controller != claiming.active
          && registrationFor(client.path) == claiming) {
        claimedFrom[changed] = client.controller;
        changed++;
        control(c, claiming.active);
      }
    }
    // A worker that keeps its client has nothing to settle, so those that changed are enough.
    for (int i = 0; i < changed; i++) {
      settleAfterLoss(claimedFrom[i]);
    }
    return changed;
  }

  public int skip(int scope)
      throws IllegalArgumentException, NoSuchElementException, IllegalStateException {
    Registration skipping = needRegistration(scope);
    Worker skipper = skipping.waiting != null ? skipping.waiting : skipping.installing;
    if (skipper == null) {
      throw new IllegalStateException("no worker waits or installs");
    }
    skipper.skips = true;
    tryActivation(skipping);
    return skipper.number;
  }

  public int fetch(int c, int path)
      throws IllegalArgumentException, NoSuchElementException, UnsupportedOperationException {
    refuseNoPath(path);
    refuseNoClient(c);
    Worker controller = clients[c].controller;
    int mode = controller == null ? MODE_NETWORK : controller.mode;
    if (controller == null || mode == MODE_NETWORK) {
      return networkAnswer(path);
    }
    if (mode == MODE_CONTENT) {
      return controller.content;
    }
    Cache cache = controller.cache;
    // What is left are the cache first, and the network first (mode 2), for which the cache
    // answers only when the network cannot.
    boolean cacheAnswers = mode == MODE_CACHE_FIRST || !networkUp;
    if (cacheAnswers && cache.has(path)) {
      return cache.valueOf(path);
    }
    int answer = networkAnswer(path);
    cache.keep(path, answer);
    return answer;
  }

  public int registration(int scope, int what)
      throws IllegalArgumentException, NoSuchElementException {
    if (what < 0 || what > 4) {
      throw new IllegalArgumentException("no such what");
    }
    Registration asked = needRegistration(scope);
    switch (what) {
      case 0:
        return asked.script;
      case 1:
        return numberOf(asked.installing);
      case 2:
        return numberOf(asked.waiting);
      case 3:
        return numberOf(asked.active);
      default:
        return asked.leaving ? 1 : 0;
    }
  }

  public int worker(int w, int what) throws IllegalArgumentException, IndexOutOfBoundsException {
    boolean plain = what >= 0 && what <= 4;
    boolean cached = isWithin(what, 10, CACHE_LIMIT) || isWithin(what, 20, CACHE_LIMIT);
    if (!plain && !cached) {
      throw new IllegalArgumentException("no such what");
    }
    if (w < 1 || w > workerCount) {
      throw new IndexOutOfBoundsException("no such worker");
    }
    Worker asked = workers[w - 1];
    switch (what) {
      case 0:
        return asked.state;
      case 1:
        return asked.content;
      case 2:
        return asked.mode;
      case 3:
        return controlledBy(asked);
      case 4:
        return asked.cache.size;
      default:
        return what < 20 ? asked.cache.pathAt(what - 10) : asked.cache.valueAt(what - 20);
    }
  }

  public int outcome(int j) throws IndexOutOfBoundsException {
    if (j < 0 || j >= jobCount) {
      throw new IndexOutOfBoundsException("no such job");
    }
    return jobs[j].outcome;
  }

  public int trace(int k) throws IndexOutOfBoundsException {
    if (k < 0 || k >= happened.kept) {
      throw new IndexOutOfBoundsException("the trace has kept no such number");
    }
    return happened.numbers[k];
  }

  public int count(int what) throws IllegalArgumentException {
    if (isWithin(what, 10, CLIENT_LIMIT)) {
      return numberOf(clients[what - 10].controller);
    }
    if (isWithin(what, 20, CLIENT_LIMIT)) {
      Client asked = clients[what - 20];
      return asked.there ? asked.path : -1;
    }
    if (isWithin(what, 30, REGISTRATION_LIMIT)) {
      int k = what - 30;
      return k < registrationCount ? registrations[k].scope : -1;
    }
    switch (what) {
      case 0:
        return registrationCount;
      case 1:
        return workerCount;
      case 2:
        return clientsThere();
      case 3:
        return jobCount;
      case 4:
        return jobsNotEnded();
      case 5:
        return happened.count;
      default:
        throw new IllegalArgumentException("no such what");
    }
  }

  // ---- paths and other arguments

  private static boolean isWithin(int what, int first, int length) {
    return what >= first && what < first + length;
  }

  private static boolean isScript(int s) {
    return s >= 0 && s < SCRIPT_LIMIT;
  }

  private static boolean isPath(int number) {
    if (number < 0 || number > LAST_PATH) {
      return false;
    }
    int rest = number;
    for (int i = 0; i < MOST_LETTERS && rest > 0; i++) {
      if (rest % BASE == 0) {
        return false;
      }
      rest /= BASE;
    }
    return true;
  }

  private static boolean begins(int start, int path) {
    int startRest = start;
    int pathRest = path;
    for (int i = 0; i < MOST_LETTERS && startRest > 0; i++) {
      if (startRest % BASE != pathRest % BASE) {
        return false;
      }
      startRest /= BASE;
      pathRest /= BASE;
    }
    return true;
  }

  private static void refuseNoPath(int number) {
    if (!isPath(number)) {
      throw new IllegalArgumentException("no path");
    }
  }

  private void refuseNoClient(int c) {
    if (c < 0 || c >= CLIENT_LIMIT || !clients[c].there) {
      throw new NoSuchElementException("no such client");
    }
  }

  private Registration needRegistration(int scope) {
    refuseNoPath(scope);
    Registration found = registrationOf(scope);
    if (found == null) {
      throw new NoSuchElementException("no such registration");
    }
    return found;
  }

  // ---- the network

  private int networkAnswer(int path) {
    if (!networkUp) {
      throw new UnsupportedOperationException("the network is down");
    }
    return net + path;
  }

  // ---- rows of jobs

  private static boolean isInRow(Job job, int scope) {
    return job.scope == scope && job.outcome == NOT_ENDED;
  }

  private Job firstOfRow(int scope) {
    for (int j = 0; j < jobCount; j++) {
      if (isInRow(jobs[j], scope)) {
        return jobs[j];
      }
    }
    return null;
  }

  private Job lastOfRow(int scope) {
    for (int j = jobCount - 1; j >= 0; j--) {
      if (isInRow(jobs[j], scope)) {
        return jobs[j];
      }
    }
    return null;
  }

  private int rowLength(int scope) {
    int length = 0;
    for (int j = 0; j < jobCount; j++) {
      if (isInRow(jobs[j], scope)) {
        length++;
      }
    }
    return length;
  }

  private int jobsNotEnded() {
    int left = 0;
    for (int j = 0; j < jobCount; j++) {
      if (jobs[j].outcome == NOT_ENDED) {
        left++;
      }
    }
    return left;
  }

  // ---- steps: each answers the outcome, or NOT_ENDED if another step is to come

  private int beginJob(Job job) {
    switch (job.kind) {
      case KIND_REGISTER:
        return beginRegister(job);
      case KIND_UPDATE:
        return beginUpdate(job.scope);
      default:
        return unregister(job.scope);
    }
  }

  private int beginRegister(Job job) {
    if (!begins(scripts[job.script].broad, job.scope)) {
      return OUT_OF_BROAD;
    }
    if (!networkUp) {
      return NETWORK_DOWN;
    }
    Registration target = registrationOf(job.scope);
    boolean noPlace = target == null && registrationCount >= REGISTRATION_LIMIT;
    if (noPlace || workerCount >= WORKER_LIMIT) {
      return NO_ROOM;
    }
    if (target == null) {
      target = addRegistration(job.scope);
    }
    target.leaving = false;
    if (target.script == job.script && isUpToDate(target)) {
      return UNCHANGED;
    }
    target.script = job.script;
    beginInstall(target);
    return NOT_ENDED;
  }

  private int beginUpdate(int scope) {
    Registration target = registrationOf(scope);
    if (target == null || target.leaving) {
      return NOT_REGISTERED;
    }
    if (!networkUp) {
      return NETWORK_DOWN;
    }
    if (workerCount >= WORKER_LIMIT) {
      return NO_ROOM;
    }
    if (isUpToDate(target)) {
      return UNCHANGED;
    }
    beginInstall(target);
    return NOT_ENDED;
  }

  private int unregister(int scope) {
    Registration target = registrationOf(scope);
    if (target == null || target.leaving) {
      return NOT_REGISTERED;
    }
    target.leaving = true;
    tryClearing(target);
    return DONE;
  }

  private boolean isUpToDate(Registration target) {
    Worker newest = target.newest();
    return newest != null && newest.content == scripts[target.script].content;
  }

  private void beginInstall(Registration target) {
    Worker made = new Worker(workerCount + 1, scripts[target.script]);
    workers[workerCount] = made;
    workerCount++;
    target.installing = made;
    bring(made, STATE_INSTALLING);
  }

  private int finishInstall(int scope) {
    Registration target = registrationOf(scope);
    // Only a job behind this one could take either away; looked at so that no call can fail.
    if (target == null || target.installing == null) {
      return NOT_REGISTERED;
    }
    Worker installed = target.installing;
    target.installing = null;
    if (installed.flaw == FLAWED) {
      bring(installed, STATE_REDUNDANT);
      if (target.newest() == null) {
        removeRegistration(target);
      }
      return INSTALL_FAILED;
    }
    bring(target.waiting, STATE_REDUNDANT);
    target.waiting = installed;
    bring(installed, STATE_INSTALLED);
    tryActivation(target);
    return DONE;
  }

  // ---- activation and clearing

  private void tryActivation(Registration target) {
    Worker next = target.waiting;
    Worker before = target.active;
    if (next == null || !(next.skips || controlledBy(before) == 0)) {
      return;
    }
    bring(before, STATE_REDUNDANT);
    target.waiting = null;
    target.active = next;
    bring(next, STATE_ACTIVATED);
    if (before == null) {
      return;
    }
    for (int c = 0; c < CLIENT_LIMIT; c++) {
      if (clients[c].controller == before) {
        control(c, next);
      }
    }
  }

  private boolean tryClearing(Registration target) {
    if (!target.leaving || target.installing != null || controlledBy(target.active) > 0) {
      return false;
    }
    bring(target.waiting, STATE_REDUNDANT);
    bring(target.active, STATE_REDUNDANT);
    removeRegistration(target);
    return true;
  }

  /** What a worker that a client was taken from makes possible for its registration. */
  private void settleAfterLoss(Worker loser) {
    Registration target = registrationWithActive(loser);
    if (target != null && !tryClearing(target)) {
      tryActivation(target);
    }
  }

  // ---- workers and clients

  private static int numberOf(Worker worker) {
    return worker == null ? 0 : worker.number;
  }

  private void bring(Worker worker, int state) {
    if (worker != null) {
      worker.state = state;
      happened.workerComesTo(worker.number, state);
    }
  }

  private void control(int c, Worker controller) {
    clients[c].controller = controller;
    happened.clientIsControlled(c, numberOf(controller));
  }

  private int controlledBy(Worker worker) {
    int controlled = 0;
    for (int c = 0; c < CLIENT_LIMIT; c++) {
      if (worker != null && clients[c].controller == worker) {
        controlled++;
      }
    }
    return controlled;
  }

  private int clientsThere() {
    int there = 0;
    for (int c = 0; c < CLIENT_LIMIT; c++) {
      if (clients[c].there) {
        there++;
      }
    }
    return there;
  }

  private int leastFreeClient() {
    int c = 0;
    while (c < CLIENT_LIMIT && clients[c].there) {
      c++;
    }
    return c;
  }

  // ---- registrations, in the order in which they were made

  private Registration registrationOf(int scope) {
    for (int i = 0; i < registrationCount; i++) {
      if (registrations[i].scope == scope) {
        return registrations[i];
      }
    }
    return null;
  }

  private Registration registrationFor(int path) {
    Registration best = null;
    for (int i = 0; i < registrationCount; i++) {
      Registration next = registrations[i];
      boolean fits = !next.leaving && next.active != null && begins(next.scope, path);
      // Of two scopes that begin one path the longer is also the greater number.
      if (fits && (best == null || next.scope > best.scope)) {
        best = next;
      }
    }
    return best;
  }

  private Registration registrationWithActive(Worker active) {
    for (int i = 0; i < registrationCount; i++) {
      if (active != null && registrations[i].active == active) {
        return registrations[i];
      }
    }
    return null;
  }

  private Registration addRegistration(int scope) {
    Registration added = new Registration(scope);
    registrations[registrationCount] = added;
    registrationCount++;
    return added;
  }

  private void removeRegistration(Registration gone) {
    int kept = 0;
    for (int i = 0; i < registrationCount; i++) {
      if (registrations[i] != gone) {
        registrations[kept] = registrations[i];
        kept++;
      }
    }
    registrationCount = kept;
  }

  // ---- what is held

  private static final class Script {
    private int content = 0;
    private int broad = 0;
    private int flaw = NO_FLAW;
    private int mode = MODE_NETWORK;
  }

  /** Paths with the values they were answered with, the oldest first. */
  private static final class Cache {
    private final int[] paths = new int[CACHE_LIMIT];
    private final int[] values = new int[CACHE_LIMIT];
    private int size = 0;

    private int placeOf(int path) {
      int place = 0;
      while (place < size && paths[place] != path) {
        place++;
      }
      return place;
    }

    boolean has(int path) {
      return placeOf(path) < size;
    }

    int valueOf(int path) {
      return valueAt(placeOf(path));
    }

    int pathAt(int place) {
      return place >= 0 && place < size ? paths[place] : 0;
    }

    int valueAt(int place) {
      return place >= 0 && place < size ? values[place] : 0;
    }

    void keep(int path, int value) {
      if (has(path)) {
        drop(placeOf(path));
      } else if (size >= CACHE_LIMIT) {
        drop(0);
      }
      paths[size] = path;
      values[size] = value;
      size++;
    }

    private void drop(int place) {
      for (int i = place; i + 1 < size; i++) {
        paths[i] = paths[i + 1];
        values[i] = values[i + 1];
      }
      size--;
    }
  }

  private static final class Worker {
    private final int number;
    private final int content;
    private final int flaw;
    private final int mode;
    private final Cache cache = new Cache();
    private int state = STATE_INSTALLING;
    private boolean skips = false;

    Worker(int number, Script script) {
      this.number = number;
      this.content = script.content;
      this.flaw = script.flaw;
      this.mode = script.mode;
    }
  }

  private static final class Registration {
    private final int scope;
    private int script = 0;
    private Worker installing = null;
    private Worker waiting = null;
    private Worker active = null;
    private boolean leaving = false;

    Registration(int scope) {
      this.scope = scope;
    }

    Worker newest() {
      if (installing != null) {
        return installing;
      }
      return waiting != null ? waiting : active;
    }
  }

  private static final class Client {
    private boolean there = false;
    private int path = 0;
    private Worker controller = null;
  }

  private static final class Job {
    private final int number;
    private final int kind;
    private final int scope;
    private final int script;
    private boolean begun = false;
    private int outcome = NOT_ENDED;

    Job(int number, int kind, int scope, int script) {
      this.number = number;
      this.kind = kind;
      this.scope = scope;
      this.script = script;
    }
  }

  /** What happened, as numbers; all are counted, but only the first ones are kept. */
  private static final class Trace {
    private final int[] numbers = new int[TRACE_LIMIT];
    private int kept = 0;
    private int count = 0;

    void workerComesTo(int w, int state) {
      append(8 * w + state);
    }

    void clientIsControlled(int c, int w) {
      append(-(64 * c + w) - 1);
    }

    void jobEnds(int j) {
      append(1000 + j);
    }

    private void append(int number) {
      if (kept < TRACE_LIMIT) {
        numbers[kept] = number;
        kept++;
      }
      count++;
    }
  }
}

import java.util.ArrayDeque;
import java.util.ArrayList;
import java.util.Arrays;
import java.util.Deque;
import java.util.List;
import java.util.Map;
import java.util.TreeMap;
import java.util.TreeSet;

/**
 * The terms of the document once more, in its order and with the Java library, to be read beside it
 * and not to be fast: what ClusterShelf is held against. Arguments are not looked at here.
 */
final class Model {
  static final int NONE = -1;
  static final int REQUEST = 0;
  static final int GRANT = 1;
  static final int CALL_BACK = 2;
  static final int RELEASE = 3;
  static final int RESOURCES = 136;

  /** A call, from its beginning until the object's end. */
  static final class Call {
    int node;
    int kind;
    int[] given;
    final TreeMap<Integer, Integer> list = new TreeMap<>();
    int status = 1;
    int value;
    int begun;
    int over;
    int tries;
    int fate;
    boolean isTooMuch;

    boolean isUnderWay() {
      return status == 1;
    }

    boolean waitsForLog() {
      return isUnderWay() && (kind == Due.SYNC || isTooMuch);
    }
  }

  /** One write of a flush. The first HEAD is the one that makes its calls safe. */
  record Write(int block, int[] words, boolean isFirstHead) {}

  static final class Flush {
    final Deque<Write> writes = new ArrayDeque<>();
    final List<Call> calls = new ArrayList<>();
  }

  static final class Node {
    int id;
    boolean isUp = true;
    boolean isJoined = true;
    final TreeMap<Integer, int[]> cache = new TreeMap<>();
    final TreeSet<Integer> log = new TreeSet<>();
    /** The calls whose changes the log has. */
    final List<Call> logged = new ArrayList<>();
    Flush flush;
    int flushes;
    final int[] holds = new int[RESOURCES];
    final int[] asked = new int[RESOURCES];
    final int[] back = new int[RESOURCES];
    final TreeSet<Integer> pinned = new TreeSet<>();
    Call call;

    boolean waits(int resource) {
      return back[resource] != NONE && !pinned.contains(resource);
    }
  }

  record Message(int from, int to, int kind, int resource, int mode, int comes) {}

  record Request(int node, int mode) {}

  /** What the master of a resource has. */
  static final class Rights {
    final int[] gave = new int[4];
    final int[] called = {NONE, NONE, NONE, NONE};
    final List<Request> row = new ArrayList<>();

    void clear() {
      Arrays.fill(gave, 0);
      Arrays.fill(called, NONE);
      row.clear();
    }
  }

  final int[][] disk = new int[640][16];
  final Node[] nodes;
  final Rights[] rights = new Rights[RESOURCES];
  final int[][] delays;
  List<Message> messages = new ArrayList<>();
  final List<Call> history = new ArrayList<>();
  int time;
  int sent;
  int writes;
  int ended;
  int lost;

  Model(int count) {
    nodes = new Node[count];
    delays = new int[count][count];
    for (int i = 0; i < count; i++) {
      nodes[i] = new Node();
      nodes[i].id = i;
      Arrays.fill(nodes[i].back, NONE);
      Arrays.fill(delays[i], 1);
    }
    for (int r = 0; r < RESOURCES; r++) {
      rights[r] = new Rights();
    }
    disk[0][0] = 7177;
    disk[0][1] = count;
    disk[128][0] = 1;
    disk[129][0] = 2;
    disk[129][1] = 1;
  }

  // ---- section 2

  int master(int resource) {
    for (int i = 0; i < nodes.length; i++) {
      int node = (resource % nodes.length + i) % nodes.length;
      if (nodes[node].isJoined) {
        return node;
      }
    }
    return NONE;
  }

  // ---- section 3: how a call goes on

  boolean call(int node, int kind, int... given) {
    Call call = new Call();
    call.node = node;
    call.kind = kind;
    call.given = given;
    call.begun = time;
    nodes[node].call = call;
    goOn(nodes[node]);
    return !call.isUnderWay();
  }

  private void goOn(Node x) {
    Call call = x.call;
    while (call != null && call.isUnderWay()) {
      if (call.kind == Due.SYNC && (x.flush != null || !x.log.isEmpty())) {
        flush(x);
        return;
      }
      if (call.isTooMuch && x.flush != null) {
        return;
      }
      call.isTooMuch = false;
      if (!pinAll(x, call)) {
        return;
      }
      tryIt(x, call);
    }
  }

  private boolean pinAll(Node x, Call call) {
    for (Map.Entry<Integer, Integer> wanted : call.list.entrySet()) {
      int r = wanted.getKey();
      int mode = wanted.getValue();
      if (x.pinned.contains(r)) {
        continue;
      }
      if (x.holds[r] >= mode && x.back[r] == NONE) {
        x.pinned.add(r);
        continue;
      }
      if (x.back[r] == NONE && x.asked[r] == 0) {
        x.asked[r] = mode;
        send(x.id, master(r), REQUEST, r, mode);
      }
      return false;
    }
    return true;
  }

  private void tryIt(Node x, Call call) {
    call.tries++;
    ModelTry attempt = new ModelTry(this, x, call);
    try {
      call.value = attempt.run();
      call.status = 2;
    } catch (ModelTry.Lacks lacks) {
      call.list.put(lacks.resource, lacks.mode);
      unpin(x);
      return;
    } catch (ModelTry.Fault fault) {
      attempt.changed.clear();
      attempt.given.clear();
      call.value = fault.fault;
      call.status = 3;
    }
    TreeSet<Integer> log = new TreeSet<>(x.log);
    log.addAll(attempt.changed.keySet());
    log.removeAll(attempt.given);
    if (log.size() > 16) {
      call.status = 1;
      call.value = 0;
      call.isTooMuch = true;
      unpin(x);
      flush(x);
      return;
    }
    if (!attempt.changed.isEmpty()) {
      call.fate = 1;
      x.logged.add(call);
    }
    x.cache.putAll(attempt.changed);
    x.cache.keySet().removeAll(attempt.given);
    x.log.clear();
    x.log.addAll(log);
    call.over = time;
    ended++;
    history.add(call);
    unpin(x);
  }

  private void unpin(Node x) {
    TreeSet<Integer> were = new TreeSet<>(x.pinned);
    x.pinned.clear();
    for (int r : were) {
      if (x.back[r] != NONE) {
        goDown(x, r);
      }
    }
  }

  // ---- section 4

  private void send(int from, int to, int kind, int resource, int mode) {
    sent++;
    if (!nodes[to].isUp) {
      return;
    }
    int comes = time + delays[from][to];
    for (Message m : messages) {
      if (m.from == from && m.to == to) {
        comes = Math.max(comes, m.comes);
      }
    }
    messages.add(new Message(from, to, kind, resource, mode, comes));
  }

  private void serve(int resource) {
    Rights of = rights[resource];
    while (!of.row.isEmpty()) {
      Request first = of.row.get(0);
      List<Integer> against = new ArrayList<>();
      for (int y = 0; y < nodes.length; y++) {
        boolean stands = first.mode == 2 ? of.gave[y] > 0 : of.gave[y] == 2;
        if (y != first.node && stands) {
          against.add(y);
        }
      }
      int downTo = first.mode == 2 ? 0 : 1;
      for (int y : against) {
        if (of.called[y] == NONE || of.called[y] > downTo) {
          of.called[y] = downTo;
          send(master(resource), y, CALL_BACK, resource, downTo);
        }
      }
      if (!against.isEmpty()) {
        return;
      }
      of.gave[first.node] = Math.max(of.gave[first.node], first.mode);
      send(master(resource), first.node, GRANT, resource, first.mode);
      of.row.remove(0);
    }
  }

  private void come(Message m) {
    Node x = nodes[m.to];
    Rights of = rights[m.resource];
    if (m.kind == REQUEST) {
      of.row.add(new Request(m.from, m.mode));
      serve(m.resource);
    } else if (m.kind == RELEASE) {
      of.gave[m.from] = m.mode;
      of.called[m.from] = NONE;
      serve(m.resource);
    } else if (m.kind == GRANT) {
      x.holds[m.resource] = Math.max(x.holds[m.resource], m.mode);
      x.asked[m.resource] = 0;
      goOn(x);
    } else if (x.holds[m.resource] <= m.mode) {
      send(x.id, m.from, RELEASE, m.resource, x.holds[m.resource]);
    } else {
      int was = x.back[m.resource];
      x.back[m.resource] = was == NONE ? m.mode : Math.min(was, m.mode);
      if (!x.pinned.contains(m.resource)) {
        goDown(x, m.resource);
        goOn(x);
      }
    }
  }

  private void goDown(Node x, int resource) {
    if (x.holds[resource] == 2 && (x.flush != null || !x.log.isEmpty())) {
      flush(x);
      return;
    }
    int mode = x.back[resource];
    if (mode == 0) {
      x.cache.keySet().removeAll(blocksOf(x, resource));
    }
    x.holds[resource] = mode;
    x.back[resource] = NONE;
    send(x.id, master(resource), RELEASE, resource, mode);
  }

  /** The blocks of a resource, by what the cache says. */
  private static TreeSet<Integer> blocksOf(Node x, int resource) {
    TreeSet<Integer> blocks = new TreeSet<>();
    if (resource >= 128) {
      blocks.add(128 + 64 * (resource - 128));
      return blocks;
    }
    int home = Due.inodeBlock(resource);
    blocks.add(home);
    int[] inode = x.cache.get(home);
    if (inode != null) {
      for (int w = 3; w <= 11; w++) {
        blocks.add(inode[w]);
      }
      int[] index = inode[11] == 0 ? null : x.cache.get(inode[11]);
      for (int w = 0; index != null && w < 16; w++) {
        blocks.add(index[w]);
      }
    }
    return blocks;
  }

  /** A flush begins, if none is under way. */
  private static void flush(Node x) {
    if (x.flush != null) {
      return;
    }
    int journal = 1 + 24 * x.id;
    x.flush = new Flush();
    x.flushes++;
    int[] table = new int[16];
    int j = 0;
    for (int block : x.log) {
      x.flush.writes.add(new Write(journal + 2 + j, x.cache.get(block).clone(), false));
      table[j] = block;
      j++;
    }
    int[] head = new int[16];
    head[0] = x.flushes;
    head[1] = j;
    head[2] = 1;
    x.flush.writes.add(new Write(journal + 1, table, false));
    x.flush.writes.add(new Write(journal, head, true));
    for (int block : x.log) {
      x.flush.writes.add(new Write(block, x.cache.get(block).clone(), false));
    }
    int[] last = head.clone();
    last[2] = 0;
    x.flush.writes.add(new Write(journal, last, false));
    x.flush.calls.addAll(x.logged);
    x.logged.clear();
    x.log.clear();
  }

  private void whenOver(Node x) {
    x.flush = null;
    boolean waits = x.call != null && x.call.waitsForLog();
    for (int r = 0; r < RESOURCES; r++) {
      waits = waits || x.waits(r);
    }
    if (waits && !x.log.isEmpty()) {
      flush(x);
      return;
    }
    for (int r = 0; r < RESOURCES; r++) {
      if (x.waits(r)) {
        goDown(x, r);
      }
    }
    goOn(x);
  }

  // ---- section 5

  int tick(int n) {
    int before = ended;
    for (int t = 0; t < n; t++) {
      time++;
      List<Message> due = new ArrayList<>(messages);
      due.removeIf(m -> m.comes > time);
      messages.removeIf(m -> m.comes <= time);
      due.forEach(this::come);
      for (Node x : nodes) {
        if (x.flush != null) {
          write(x);
        }
      }
    }
    return ended - before;
  }

  private void write(Node x) {
    Write write = x.flush.writes.remove();
    disk[write.block] = write.words.clone();
    writes++;
    if (write.isFirstHead) {
      x.flush.calls.forEach(call -> call.fate = 2);
    }
    if (x.flush.writes.isEmpty()) {
      whenOver(x);
    }
  }

  void crash(int node, int torn) {
    Node x = nodes[node];
    if (x.flush != null) {
      Write write = x.flush.writes.peek();
      System.arraycopy(write.words, 0, disk[write.block], 0, torn);
      if (write.isFirstHead && torn >= 3) {
        x.flush.calls.forEach(call -> call.fate = 2);
      }
    }
    for (Call call : history) {
      if (call.node == node && call.fate == 1) {
        call.fate = 3;
      }
    }
    if (x.call != null && x.call.isUnderWay()) {
      x.call.status = 4;
      x.call.over = time;
      lost++;
    }
    Node gone = new Node();
    gone.id = node;
    gone.isUp = false;
    gone.call = x.call;
    Arrays.fill(gone.back, NONE);
    nodes[node] = gone;
    for (int r = 0; r < RESOURCES; r++) {
      if (master(r) == node) {
        rights[r].clear();
      }
    }
    messages.removeIf(m -> m.from == node || m.to == node);
  }

  int recover() {
    int images = 0;
    for (Node x : nodes) {
      if (!x.isUp && x.isJoined) {
        images += replay(disk, x.id);
        x.isJoined = false;
      }
    }
    layAnew();
    return images;
  }

  static int replay(int[][] disk, int node) {
    int journal = 1 + 24 * node;
    if (disk[journal][2] != 1) {
      return 0;
    }
    for (int j = 0; j < disk[journal][1]; j++) {
      disk[disk[journal + 1][j]] = disk[journal + 2 + j].clone();
    }
    disk[journal][2] = 0;
    return disk[journal][1];
  }

  void start(int node) {
    nodes[node].isUp = true;
    nodes[node].isJoined = true;
    layAnew();
  }

  private void layAnew() {
    messages.clear();
    for (int r = 0; r < RESOURCES; r++) {
      rights[r].clear();
    }
    for (Node x : nodes) {
      Arrays.fill(x.back, NONE);
      for (int r = 0; x.isUp && r < RESOURCES; r++) {
        rights[r].gave[x.id] = x.holds[r];
      }
    }
    for (Node x : nodes) {
      for (int r = 0; x.isUp && r < RESOURCES; r++) {
        if (x.asked[r] != 0) {
          rights[r].row.add(new Request(x.id, x.asked[r]));
        }
      }
    }
    for (int r = 0; r < RESOURCES; r++) {
      serve(r);
    }
    for (Node x : nodes) {
      if (x.isUp) {
        goOn(x);
      }
    }
  }
}

import java.util.Arrays;
import java.util.NoSuchElementException;

/** A file system that nodes share on one disk; the caller is the schedule. */
public final class ClusterShelf {
  public static final int NONE = -1;

  private static final int BLOCKS = 640;
  private static final int WORDS = 16;
  private static final int CELLS = BLOCKS * WORDS;
  private static final int MAGIC = 7177;
  private static final int MOST_NODES = 4;
  private static final int JOURNAL = 24;
  private static final int GROUPS = 8;
  private static final int GROUP = 64;
  private static final int FIRST_MAP = 128;
  private static final int INODES = 128;
  private static final int INODES_OF_GROUP = 16;
  private static final int DATA_OF_GROUP = 47;
  private static final int FIRST_DATA = 17;
  private static final int MAPS = 128;
  private static final int RESOURCES = MAPS + GROUPS;

  private static final int KIND = 0;
  private static final int LINKS = 1;
  private static final int SIZE = 2;
  private static final int DIRECT = 3;
  private static final int DIRECTS = 8;
  private static final int INDEX = 11;
  private static final int PLACES = 24;
  private static final int MOST_WORDS = 384;
  private static final int FILE = 1;
  private static final int DIRECTORY = 2;

  private static final int SHARED = 1;
  private static final int ALONE = 2;
  private static final int LOG = 16;
  /** Each node has one request at most in a row. */
  private static final int ROW = 4;

  private static final int REQUEST = 0;
  private static final int GRANT = 1;
  private static final int CALL_BACK = 2;
  private static final int RELEASE = 3;
  private static final int LETTER = 6;

  private static final int NO_CALL = 0;
  private static final int UNDER_WAY = 1;
  private static final int DONE = 2;
  private static final int FAULT = 3;
  private static final int LOST = 4;
  /** A try that met a resource which isn't pinned. */
  private static final int LACKS = 5;

  private static final int NO_DIRECTORY = -2;
  private static final int NO_ENTRY = -3;
  private static final int NO_FILE = -4;
  private static final int NOTHING = -5;
  private static final int THERE_IS_ONE = -6;
  private static final int NO_ROOM = -7;
  private static final int NOT_EMPTY = -8;
  private static final int ELSEWHERE = -9;
  private static final int BEHIND = -10;

  private static final int LOOK = 0;
  private static final int MAKE = 1;
  private static final int REMOVE = 2;
  private static final int LINK = 3;
  private static final int RENAME = 4;
  private static final int READ = 5;
  private static final int WRITE = 6;
  private static final int CUT = 7;
  private static final int ENTRY = 8;
  private static final int STAT = 9;
  private static final int SYNC = 10;
  private static final int ADD = 11;
  private static final int APPEND = 12;
  private static final int COUNT = 13;
  private static final int ROOM = 14;

  private static final int KEPT = 400;
  private static final int FACTS = 10;
  private static final int CHANGED_NOTHING = 0;
  private static final int UNSAFE = 1;
  private static final int SAFE = 2;
  private static final int GONE = 3;

  /** Every try but the last adds to a call's list, so no call needs more rounds than resources. */
  private static final int ROUNDS = 2 * RESOURCES + 2;

  private final World world;
  private final Post post;
  private final Masters masters;
  private final Records records;
  private final Member[] members;
  private final Attempt attempt;
  private final Whole whole;

  public ClusterShelf(int nodes) {
    world = new World(Math.max(2, Math.min(MOST_NODES, nodes)));
    post = new Post(world);
    masters = new Masters(world, post);
    records = new Records(world);
    whole = new Whole(world);
    members = new Member[world.nodes];
    for (int i = 0; i < members.length; i++) {
      members[i] = new Member(i, world, post, records);
    }
    attempt = new Attempt(world, members[0]);
  }

  // ---- the schedule

  public int call(int node, int kind, int a, int b, int c, int d)
      throws IllegalArgumentException, IllegalStateException {
    checkNode(node);
    if (!fits(kind, a, b, c, d)) {
      throw new IllegalArgumentException("no such kind, or what it has");
    }
    Member member = members[node];
    if (!world.up[node] || member.work.status == UNDER_WAY) {
      throw new IllegalStateException("down, or a call is under way");
    }
    member.work.begin(world.time, kind, a, b, c, d);
    goOn(member);
    return member.work.status == UNDER_WAY ? 0 : 1;
  }

  public void delay(int from, int to, int ticks) throws IllegalArgumentException {
    checkNode(from);
    checkNode(to);
    if (ticks < 1 || ticks > 20) {
      throw new IllegalArgumentException("ticks are not 1 .. 20");
    }
    post.delays[from * MOST_NODES + to] = ticks;
  }

  public int tick(int n) throws IllegalArgumentException {
    if (n < 0 || n > 100) {
      throw new IllegalArgumentException("n is not 0 .. 100");
    }
    int ended = world.ended;
    for (int t = 0; t < n; t++) {
      world.time++;
      int due = post.sortOut();
      for (int i = 0; i < due; i++) {
        int woken = bring(i * LETTER);
        if (woken != NONE) {
          goOn(members[woken]);
        }
      }
      for (int i = 0; i < members.length; i++) {
        if (members[i].write()) {
          goOn(members[i]);
        }
      }
    }
    return world.ended - ended;
  }

  public void crash(int node, int torn) throws IllegalArgumentException, IllegalStateException {
    checkNode(node);
    if (torn < 0 || torn >= WORDS) {
      throw new IllegalArgumentException("torn is not 0 .. 15");
    }
    if (!world.up[node]) {
      throw new IllegalStateException("it is down");
    }
    Member member = members[node];
    member.tear(torn);
    records.lose(node);
    if (member.work.lose(world.time)) {
      world.lost++;
    }
    member.empty();
    masters.forget(node);
    post.dropOf(node);
    world.up[node] = false;
  }

  public int recover(int node) throws IllegalArgumentException, IllegalStateException {
    checkNode(node);
    if (world.up[node] || !world.joined[node]) {
      throw new IllegalStateException("it is up or not joined");
    }
    int images = 0;
    for (int i = 0; i < world.nodes; i++) {
      if (!world.up[i] && world.joined[i]) {
        images += replay(world.disk, i);
        world.joined[i] = false;
      }
    }
    layAnew();
    for (int i = 0; i < members.length; i++) {
      goOn(members[i]);
    }
    return images;
  }

  public void start(int node) throws IllegalArgumentException, IllegalStateException {
    checkNode(node);
    if (world.up[node] || world.joined[node] || world.awaitsRecovery()) {
      throw new IllegalStateException("it is up or joined, or another one is down and joined");
    }
    world.up[node] = true;
    world.joined[node] = true;
    layAnew();
    for (int i = 0; i < members.length; i++) {
      goOn(members[i]);
    }
  }

  // ---- results

  public int result(int node, int what) throws IllegalArgumentException {
    checkNode(node);
    Work work = members[node].work;
    switch (what) {
      case 0: return work.status;
      case 1: return work.value;
      case 2: return work.status == UNDER_WAY ? world.time - work.begun : work.took;
      case 3: return work.tries;
      case 4: return work.listed;
      default: throw new IllegalArgumentException("no such what");
    }
  }

  public int history(int i, int what) throws IndexOutOfBoundsException, IllegalArgumentException {
    if (i < 0 || i >= records.count) {
      throw new IndexOutOfBoundsException("no such call");
    }
    if (what < 0 || what >= FACTS) {
      throw new IllegalArgumentException("no such what");
    }
    return records.facts[i * FACTS + what];
  }

  // ---- what is seen

  public int word(int block, int i) throws IndexOutOfBoundsException {
    if (!isWord(block, i)) {
      throw new IndexOutOfBoundsException("no such word");
    }
    return world.disk[block * WORDS + i];
  }

  public int cached(int node, int block, int i)
      throws IllegalArgumentException, IndexOutOfBoundsException, NoSuchElementException {
    checkNode(node);
    if (!isWord(block, i)) {
      throw new IndexOutOfBoundsException("no such word");
    }
    if (!members[node].has[block]) {
      throw new NoSuchElementException("not in its cache");
    }
    return members[node].cache[block * WORDS + i];
  }

  public int lock(int node, int resource, int what) throws IllegalArgumentException {
    checkNode(node);
    checkResource(resource);
    Member member = members[node];
    switch (what) {
      case 0: return member.hold[resource];
      case 1: return member.asked[resource];
      case 2: return member.back[resource];
      case 3: return member.work.status == UNDER_WAY ? member.work.modes[resource] : 0;
      case 4: return masters.gave[resource * MOST_NODES + node];
      default: throw new IllegalArgumentException("no such what");
    }
  }

  public int row(int resource, int what) throws IllegalArgumentException {
    checkResource(resource);
    if (what < 0) {
      throw new IllegalArgumentException("what is below 0");
    }
    if (what == 0) {
      return world.masterOf(resource);
    }
    if (what == 1) {
      return masters.rowed[resource];
    }
    int i = (what - 2) / 2;
    if (i >= masters.rowed[resource]) {
      return NONE;
    }
    int place = resource * ROW + i;
    return what % 2 == 0 ? masters.rowNode[place] : masters.rowMode[place];
  }

  public int message(int i, int what) throws IndexOutOfBoundsException, IllegalArgumentException {
    if (i < 0 || i >= post.count) {
      throw new IndexOutOfBoundsException("no such message");
    }
    if (what < 0 || what >= LETTER) {
      throw new IllegalArgumentException("no such what");
    }
    return post.letters[i * LETTER + what];
  }

  public int node(int node, int what) throws IllegalArgumentException {
    checkNode(node);
    Member member = members[node];
    switch (what) {
      case 0: return world.up[node] ? 1 : 0;
      case 1: return world.joined[node] ? 1 : 0;
      case 2: return member.logged;
      case 3: return member.flush.left();
      case 4: return member.flushes;
      case 5: return member.held;
      case 6: return member.flush.left() == 0 ? NONE : member.flush.place(node);
      default: throw new IllegalArgumentException("no such what");
    }
  }

  public int about(int what) throws IllegalArgumentException {
    switch (what) {
      case 0: return world.time;
      case 1: return post.count;
      case 2: return post.sent;
      case 3: return world.writes;
      case 4: return world.ended;
      case 5: return world.lost;
      case 6: return world.nodes;
      case 7: return usedData(world.disk);
      case 8: return usedInodes(world.disk);
      case 9: return whole.check();
      default: throw new IllegalArgumentException("no such what");
    }
  }

  // ---- what arguments may be

  private void checkNode(int node) throws IllegalArgumentException {
    if (node < 0 || node >= world.nodes) {
      throw new IllegalArgumentException("no such node");
    }
  }

  private static void checkResource(int resource) throws IllegalArgumentException {
    if (resource < 0 || resource >= RESOURCES) {
      throw new IllegalArgumentException("no such resource");
    }
  }

  private static boolean isWord(int block, int i) {
    return block >= 0 && block < BLOCKS && i >= 0 && i < WORDS;
  }

  private static boolean isInode(int k) {
    return k >= 0 && k < INODES;
  }

  private static boolean isData(int block) {
    return block >= FIRST_MAP && block < BLOCKS && (block - FIRST_MAP) % GROUP >= FIRST_DATA;
  }

  private static boolean fits(int kind, int a, int b, int c, int d) {
    switch (kind) {
      case LOOK:
      case REMOVE: return isInode(a) && b != 0;
      case MAKE: return isInode(a) && b != 0 && (c == FILE || c == DIRECTORY);
      case LINK: return isInode(a) && b != 0 && isInode(c);
      case RENAME: return isInode(a) && b != 0 && isInode(c) && d != 0;
      case READ:
      case WRITE:
      case ADD: return isInode(a) && b >= 0 && b < MOST_WORDS;
      case CUT: return isInode(a) && b >= 0 && b <= MOST_WORDS;
      case ENTRY: return isInode(a) && b >= 0 && b < MOST_WORDS / 2;
      case STAT: return isInode(a) && b >= 0 && b <= 3;
      case APPEND:
      case COUNT: return isInode(a);
      case SYNC:
      case ROOM: return true;
      default: return false;
    }
  }

  // ---- where things are on the disk

  private static int headOf(int node) {
    return 1 + JOURNAL * node;
  }

  private static int mapOf(int group) {
    return FIRST_MAP + GROUP * group;
  }

  private static int blockOfInode(int k) {
    return FIRST_MAP + 1 + GROUP * (k / INODES_OF_GROUP) + k % INODES_OF_GROUP;
  }

  private static int usedData(int[] disk) {
    int used = 0;
    for (int g = 0; g < GROUPS; g++) {
      int cell = mapOf(g) * WORDS;
      used += Integer.bitCount(disk[cell + 1]) + Integer.bitCount(disk[cell + 2]);
    }
    return used;
  }

  private static int usedInodes(int[] disk) {
    int used = 0;
    for (int g = 0; g < GROUPS; g++) {
      used += Integer.bitCount(disk[mapOf(g) * WORDS]);
    }
    return used;
  }

  /** Brings the images of a node's journal to their places, if its head says that they count. */
  private static int replay(int[] disk, int node) {
    int head = headOf(node) * WORDS;
    if (disk[head + 2] != 1) {
      return 0;
    }
    int images = Math.max(0, Math.min(LOG, disk[head + 1]));
    for (int j = 0; j < images; j++) {
      int block = disk[head + WORDS + j];
      if (block >= 0 && block < BLOCKS) {
        System.arraycopy(disk, head + (2 + j) * WORDS, disk, block * WORDS, WORDS);
      }
    }
    disk[head + 2] = 0;
    return images;
  }

  // ---- messages

  /** A due message does its work: the node whose call goes on then, or NONE. */
  private int bring(int letter) {
    int from = post.due[letter];
    int to = post.due[letter + 1];
    int resource = post.due[letter + 3];
    int mode = post.due[letter + 4];
    switch (post.due[letter + 2]) {
      case REQUEST:
        masters.enter(from, resource, mode);
        masters.serve(resource);
        return NONE;
      case GRANT:
        members[to].granted(resource, mode);
        return to;
      case CALL_BACK:
        return members[to].calledBack(from, resource, mode) ? to : NONE;
      case RELEASE:
        masters.release(from, resource, mode);
        masters.serve(resource);
        return NONE;
      default:
        return NONE;
    }
  }

  // ---- calls

  /** A call goes on until it has ended or waits. */
  private void goOn(Member member) {
    for (int round = 0; round < ROUNDS; round++) {
      if (member.work.status != UNDER_WAY || !member.ready()) {
        return;
      }
      attempt.run(member);
      settle(member);
    }
  }

  private void settle(Member member) {
    Work work = member.work;
    if (attempt.outcome != DONE) {
      attempt.undo();
    }
    if (attempt.outcome == LACKS) {
      work.demand(attempt.lacking, attempt.lackingMode);
    } else if (attempt.isTooMuch()) {
      attempt.undo();
      work.full = true;
    } else {
      int fate = attempt.changes > 0 ? UNSAFE : CHANGED_NOTHING;
      attempt.keep();
      work.end(world.time, attempt.outcome, attempt.value);
      records.add(member.id, work, fate);
      world.ended++;
    }
    member.unpin();
    if (work.full) {
      member.flushIfNone();
    }
  }

  // ---- recovery

  private void layAnew() {
    post.count = 0;
    masters.clear();
    for (int i = 0; i < members.length; i++) {
      Arrays.fill(members[i].back, NONE);
      for (int r = 0; r < RESOURCES; r++) {
        masters.gave[r * MOST_NODES + i] = members[i].hold[r];
        if (members[i].asked[r] != 0) {
          masters.enter(i, r, members[i].asked[r]);
        }
      }
    }
    for (int r = 0; r < RESOURCES; r++) {
      masters.serve(r);
    }
  }

  /** What all nodes see: the time, the disk, who is up, and the counts. */
  private static final class World {
    final int nodes;
    final int[] disk = new int[CELLS];
    final boolean[] up;
    final boolean[] joined;
    int time;
    int writes;
    int ended;
    int lost;

    World(int nodes) {
      this.nodes = nodes;
      up = new boolean[nodes];
      joined = new boolean[nodes];
      for (int i = 0; i < nodes; i++) {
        up[i] = true;
        joined[i] = true;
      }
      disk[0] = MAGIC;
      disk[1] = nodes;
      disk[FIRST_MAP * WORDS] = 1;
      int root = (FIRST_MAP + 1) * WORDS;
      disk[root + KIND] = DIRECTORY;
      disk[root + LINKS] = 1;
    }

    int masterOf(int resource) {
      for (int i = 0; i < nodes; i++) {
        int node = (resource + i) % nodes;
        if (joined[node]) {
          return node;
        }
      }
      return NONE;
    }

    boolean awaitsRecovery() {
      for (int i = 0; i < nodes; i++) {
        if (!up[i] && joined[i]) {
          return true;
        }
      }
      return false;
    }
  }

  /** The messages that are under way, in the order in which they were sent. */
  private static final class Post {
    final World world;
    final int[] delays = new int[MOST_NODES * MOST_NODES];
    int[] letters = new int[64 * LETTER];
    /** What comes in this tick, aside, so that sending does not disturb it. */
    int[] due = new int[64 * LETTER];
    int count;
    int sent;

    Post(World world) {
      this.world = world;
      Arrays.fill(delays, 1);
    }

    void send(int from, int to, int kind, int resource, int mode) {
      if (to == NONE) {
        return;
      }
      sent++;
      if (!world.up[to]) {
        return;
      }
      int comes = world.time + delays[from * MOST_NODES + to];
      for (int at = 0; at < count * LETTER; at += LETTER) {
        if (letters[at] == from && letters[at + 1] == to && letters[at + 5] > comes) {
          comes = letters[at + 5];
        }
      }
      int end = count * LETTER;
      if (end + LETTER > letters.length) {
        letters = Arrays.copyOf(letters, 2 * letters.length);
      }
      letters[end] = from;
      letters[end + 1] = to;
      letters[end + 2] = kind;
      letters[end + 3] = resource;
      letters[end + 4] = mode;
      letters[end + 5] = comes;
      count++;
    }

    /** Moves what comes by now into the row of due ones: how many there are. */
    int sortOut() {
      if (due.length < letters.length) {
        due = new int[letters.length];
      }
      int came = 0;
      int left = 0;
      for (int at = 0; at < count * LETTER; at += LETTER) {
        if (letters[at + 5] <= world.time) {
          System.arraycopy(letters, at, due, came * LETTER, LETTER);
          came++;
        } else {
          System.arraycopy(letters, at, letters, left * LETTER, LETTER);
          left++;
        }
      }
      count = left;
      return came;
    }

    void dropOf(int node) {
      int left = 0;
      for (int at = 0; at < count * LETTER; at += LETTER) {
        if (letters[at] != node && letters[at + 1] != node) {
          System.arraycopy(letters, at, letters, left * LETTER, LETTER);
          left++;
        }
      }
      count = left;
    }
  }

  /** What the masters have: of each resource what they gave and called back, and its row. */
  private static final class Masters {
    final World world;
    final Post post;
    final int[] gave = new int[RESOURCES * MOST_NODES];
    final int[] called = new int[RESOURCES * MOST_NODES];
    final int[] rowNode = new int[RESOURCES * ROW];
    final int[] rowMode = new int[RESOURCES * ROW];
    final int[] rowed = new int[RESOURCES];

    Masters(World world, Post post) {
      this.world = world;
      this.post = post;
      Arrays.fill(called, NONE);
    }

    void clear() {
      Arrays.fill(gave, 0);
      Arrays.fill(called, NONE);
      Arrays.fill(rowed, 0);
    }

    void forget(int master) {
      for (int r = 0; r < RESOURCES; r++) {
        if (world.masterOf(r) == master) {
          for (int i = r * MOST_NODES; i < (r + 1) * MOST_NODES; i++) {
            gave[i] = 0;
            called[i] = NONE;
          }
          rowed[r] = 0;
        }
      }
    }

    void enter(int node, int resource, int mode) {
      if (rowed[resource] < ROW) {
        int end = resource * ROW + rowed[resource];
        rowNode[end] = node;
        rowMode[end] = mode;
        rowed[resource]++;
      }
    }

    void release(int node, int resource, int mode) {
      gave[resource * MOST_NODES + node] = mode;
      called[resource * MOST_NODES + node] = NONE;
    }

    void serve(int resource) {
      int master = world.masterOf(resource);
      int first = resource * ROW;
      for (int turn = 0; turn < ROW && rowed[resource] > 0; turn++) {
        int node = rowNode[first];
        int mode = rowMode[first];
        if (callBackAgainst(master, resource, node, mode)) {
          return;
        }
        int place = resource * MOST_NODES + node;
        gave[place] = Math.max(gave[place], mode);
        post.send(master, node, GRANT, resource, mode);
        rowed[resource]--;
        for (int i = first; i < first + rowed[resource]; i++) {
          rowNode[i] = rowNode[i + 1];
          rowMode[i] = rowMode[i + 1];
        }
      }
    }

    /** Calls back from all nodes that a request stands against: whether there is one. */
    private boolean callBackAgainst(int master, int resource, int node, int mode) {
      boolean against = false;
      int downTo = mode == ALONE ? 0 : SHARED;
      for (int other = 0; other < world.nodes; other++) {
        int place = resource * MOST_NODES + other;
        if (other != node && gave[place] > downTo) {
          against = true;
          if (called[place] == NONE || called[place] > downTo) {
            called[place] = downTo;
            post.send(master, other, CALL_BACK, resource, downTo);
          }
        }
      }
      return against;
    }
  }

  /** The writes of a flush: images, table, head, the blocks in their places, head. */
  private static final class Flush {
    final int[] blocks = new int[LOG];
    final int[] images = new int[LOG * WORDS];
    int many;
    int number;
    int next;
    boolean underWay;

    int left() {
      return underWay ? 2 * many + 3 - next : 0;
    }

    boolean isAtFirstHead() {
      return underWay && next == many + 1;
    }

    /** The block of the next write. */
    int place(int node) {
      int head = headOf(node);
      if (next < many) {
        return head + 2 + next;
      }
      if (next == many) {
        return head + 1;
      }
      int copied = next - many - 2;
      return copied >= 0 && copied < many ? blocks[copied] : head;
    }

    /** Word w of the next write. */
    int content(int w) {
      if (next < many) {
        return images[next * WORDS + w];
      }
      if (next == many) {
        return w < many ? blocks[w] : 0;
      }
      int copied = next - many - 2;
      if (copied >= 0 && copied < many) {
        return images[copied * WORDS + w];
      }
      switch (w) {
        case 0: return number;
        case 1: return many;
        case 2: return copied < 0 ? 1 : 0;
        default: return 0;
      }
    }
  }

  /** A node's latest call, with its list. */
  private static final class Work {
    final int[] list = new int[RESOURCES];
    final int[] modes = new int[RESOURCES];
    int kind;
    int a;
    int b;
    int c;
    int d;
    int status = NO_CALL;
    int value;
    int begun;
    int took;
    int tries;
    int listed;
    /** It waits for the log, as it changes too many blocks. */
    boolean full;

    void begin(int time, int kind, int a, int b, int c, int d) {
      this.kind = kind;
      this.a = a;
      this.b = b;
      this.c = c;
      this.d = d;
      status = UNDER_WAY;
      value = 0;
      begun = time;
      took = 0;
      tries = 0;
      full = false;
      for (int i = 0; i < listed; i++) {
        modes[list[i]] = 0;
      }
      listed = 0;
    }

    /** Puts a resource into the list, which stays in the order of their numbers. */
    void demand(int resource, int mode) {
      if (modes[resource] == 0 && listed < RESOURCES) {
        int at = listed;
        while (at > 0 && list[at - 1] > resource) {
          list[at] = list[at - 1];
          at--;
        }
        list[at] = resource;
        listed++;
      }
      modes[resource] = mode;
    }

    boolean waitsForLog() {
      return status == UNDER_WAY && (kind == SYNC || full);
    }

    void end(int time, int status, int value) {
      this.status = status;
      this.value = value;
      took = time - begun;
    }

    boolean lose(int time) {
      if (status != UNDER_WAY) {
        return false;
      }
      end(time, LOST, 0);
      return true;
    }
  }

  /** A node: its cache, log, flush, locks and call. */
  private static final class Member {
    final int id;
    final World world;
    final Post post;
    final Records records;
    final int[] cache = new int[CELLS];
    final boolean[] has = new boolean[BLOCKS];
    final int[] log = new int[LOG];
    final Flush flush = new Flush();
    final int[] hold = new int[RESOURCES];
    final int[] asked = new int[RESOURCES];
    final int[] back = new int[RESOURCES];
    final boolean[] pinned = new boolean[RESOURCES];
    final Work work = new Work();
    int held;
    int logged;
    int flushes;

    Member(int id, World world, Post post, Records records) {
      this.id = id;
      this.world = world;
      this.post = post;
      this.records = records;
      Arrays.fill(back, NONE);
    }

    void empty() {
      for (int block = 0; block < BLOCKS; block++) {
        has[block] = false;
      }
      for (int r = 0; r < RESOURCES; r++) {
        hold[r] = 0;
        asked[r] = 0;
        back[r] = NONE;
        pinned[r] = false;
      }
      flush.underWay = false;
      held = 0;
      logged = 0;
      flushes = 0;
    }

    /** Whether the call can be tried now; else it waits, and has asked for what it needs. */
    boolean ready() {
      if (work.kind == SYNC && (flush.underWay || logged > 0)) {
        flushIfNone();
        return false;
      }
      if (work.full && flush.underWay) {
        return false;
      }
      work.full = false;
      for (int i = 0; i < work.listed; i++) {
        int r = work.list[i];
        if (!pinned[r] && (back[r] != NONE || hold[r] < work.modes[r])) {
          ask(r);
          return false;
        }
        pinned[r] = true;
      }
      return true;
    }

    private void ask(int resource) {
      if (back[resource] == NONE && asked[resource] == 0) {
        asked[resource] = work.modes[resource];
        post.send(id, world.masterOf(resource), REQUEST, resource, asked[resource]);
      }
    }

    void unpin() {
      for (int i = 0; i < work.listed; i++) {
        pinned[work.list[i]] = false;
      }
      for (int i = 0; i < work.listed; i++) {
        if (back[work.list[i]] != NONE) {
          goDown(work.list[i]);
        }
      }
    }

    void granted(int resource, int mode) {
      hold[resource] = Math.max(hold[resource], mode);
      asked[resource] = 0;
    }

    /** Whether the call goes on then. */
    boolean calledBack(int master, int resource, int mode) {
      if (hold[resource] <= mode) {
        post.send(id, master, RELEASE, resource, hold[resource]);
        return false;
      }
      back[resource] = back[resource] == NONE ? mode : Math.min(back[resource], mode);
      if (pinned[resource]) {
        return false;
      }
      goDown(resource);
      return true;
    }

    private void goDown(int resource) {
      if (hold[resource] == ALONE && (flush.underWay || logged > 0)) {
        flushIfNone();
        return;
      }
      int mode = back[resource];
      if (mode == 0) {
        forget(resource);
      }
      hold[resource] = mode;
      back[resource] = NONE;
      post.send(id, world.masterOf(resource), RELEASE, resource, mode);
    }

    /** The blocks of a resource leave the cache, by what the cached inode and index say. */
    private void forget(int resource) {
      if (resource >= MAPS) {
        drop(mapOf(resource - MAPS));
        return;
      }
      int home = blockOfInode(resource);
      if (!has[home]) {
        return;
      }
      for (int i = 0; i < DIRECTS; i++) {
        drop(cache[home * WORDS + DIRECT + i]);
      }
      int index = cache[home * WORDS + INDEX];
      if (isData(index) && has[index]) {
        for (int i = 0; i < WORDS; i++) {
          drop(cache[index * WORDS + i]);
        }
        drop(index);
      }
      drop(home);
    }

    void drop(int block) {
      if (block > 0 && block < BLOCKS && has[block]) {
        has[block] = false;
        held--;
      }
    }

    boolean isLogged(int block) {
      for (int i = 0; i < logged; i++) {
        if (log[i] == block) {
          return true;
        }
      }
      return false;
    }

    /** The log stays in the order of the blocks' numbers. */
    void enterLog(int block) {
      if (isLogged(block) || logged >= LOG) {
        return;
      }
      int at = logged;
      while (at > 0 && log[at - 1] > block) {
        log[at] = log[at - 1];
        at--;
      }
      log[at] = block;
      logged++;
    }

    void leaveLog(int block) {
      int left = 0;
      for (int i = 0; i < logged; i++) {
        if (log[i] != block) {
          log[left] = log[i];
          left++;
        }
      }
      logged = left;
    }

    void flushIfNone() {
      if (flush.underWay) {
        return;
      }
      for (int i = 0; i < logged; i++) {
        flush.blocks[i] = log[i];
        System.arraycopy(cache, log[i] * WORDS, flush.images, i * WORDS, WORDS);
      }
      flushes++;
      flush.number = flushes;
      flush.many = logged;
      flush.next = 0;
      flush.underWay = true;
      logged = 0;
      records.enterFlush(id);
    }

    /** Does the first write of the flush: whether that was the last one, and the call goes on. */
    boolean write() {
      if (!flush.underWay) {
        return false;
      }
      copyOut(WORDS);
      world.writes++;
      flush.next++;
      if (flush.left() > 0) {
        return false;
      }
      flush.underWay = false;
      if (logged > 0 && (work.waitsForLog() || waitsToGoDown())) {
        flushIfNone();
        return false;
      }
      for (int r = 0; r < RESOURCES; r++) {
        if (back[r] != NONE && !pinned[r]) {
          goDown(r);
        }
      }
      return true;
    }

    void tear(int torn) {
      if (flush.underWay) {
        copyOut(torn);
      }
    }

    private void copyOut(int words) {
      int cell = flush.place(id) * WORDS;
      for (int w = 0; w < words; w++) {
        world.disk[cell + w] = flush.content(w);
      }
      if (words > 2 && flush.isAtFirstHead()) {
        records.save(id);
      }
    }

    private boolean waitsToGoDown() {
      for (int r = 0; r < RESOURCES; r++) {
        if (back[r] != NONE && !pinned[r]) {
          return true;
        }
      }
      return false;
    }
  }

  /** One try of a call, on its node's cache, until it is kept or undone. */
  private static final class Attempt {
    private static final int TO_READ = 0;
    private static final int TO_SET = 1;
    /** To set it whole: what it was isn't needed. */
    private static final int TO_TAKE = 2;
    private static final int UNTOUCHED = 0;
    private static final int CHANGED = 1;
    private static final int FRESH = 2;

    final World world;
    final int[] before = new int[CELLS];
    final int[] marks = new int[BLOCKS];
    final int[] changed = new int[BLOCKS];
    final int[] given = new int[BLOCKS];
    final boolean[] isGiven = new boolean[BLOCKS];
    Member member;
    Work work;
    int[] cells;
    int changes;
    int gives;
    int outcome;
    int value;
    int lacking;
    int lackingMode;

    Attempt(World world, Member member) {
      this.world = world;
      this.member = member;
      work = member.work;
      cells = member.cache;
    }

    void run(Member member) {
      this.member = member;
      work = member.work;
      cells = member.cache;
      outcome = DONE;
      value = 0;
      work.tries++;
      switch (work.kind) {
        case LOOK: look(); break;
        case MAKE: make(); break;
        case REMOVE: remove(); break;
        case LINK: link(); break;
        case RENAME: rename(); break;
        case READ: read(); break;
        case WRITE: write(work.b); break;
        case CUT: cut(); break;
        case ENTRY: entry(); break;
        case STAT: stat(); break;
        case ADD: write(work.b); break;
        case APPEND: append(); break;
        case COUNT: count(); break;
        case ROOM: room(); break;
        default: break;
      }
    }

    private void clean() {
      for (int i = 0; i < changes; i++) {
        marks[changed[i]] = UNTOUCHED;
      }
      for (int i = 0; i < gives; i++) {
        isGiven[given[i]] = false;
      }
      changes = 0;
      gives = 0;
    }

    void undo() {
      for (int i = 0; i < changes; i++) {
        int block = changed[i];
        if (marks[block] == FRESH) {
          member.drop(block);
        } else {
          System.arraycopy(before, block * WORDS, cells, block * WORDS, WORDS);
        }
      }
      clean();
    }

    /** Whether the log can't take what was changed. */
    boolean isTooMuch() {
      int blocks = 0;
      for (int i = 0; i < member.logged; i++) {
        if (!isGiven[member.log[i]]) {
          blocks++;
        }
      }
      for (int i = 0; i < changes; i++) {
        if (!isGiven[changed[i]] && !member.isLogged(changed[i])) {
          blocks++;
        }
      }
      return blocks > LOG;
    }

    void keep() {
      // What was given back goes first: it makes room in the log.
      for (int i = 0; i < gives; i++) {
        member.leaveLog(given[i]);
        member.drop(given[i]);
      }
      for (int i = 0; i < changes; i++) {
        if (!isGiven[changed[i]]) {
          member.enterLog(changed[i]);
        }
      }
      clean();
    }

    // ---- what tries are made of

    private boolean meet(int resource, int mode) {
      if (member.pinned[resource] && member.hold[resource] >= mode) {
        return true;
      }
      outcome = LACKS;
      lacking = resource;
      lackingMode = mode;
      return false;
    }

    private void fail(int fault) {
      outcome = FAULT;
      value = fault;
    }

    /** Where a block's words are in the cache; it comes there, and is kept for undoing, if need be. */
    private int at(int block, int purpose) {
      int cell = block * WORDS;
      boolean had = member.has[block];
      if (!had) {
        member.has[block] = true;
        member.held++;
        for (int w = cell; w < cell + WORDS; w++) {
          cells[w] = world.disk[w];
        }
      }
      if (purpose == TO_READ) {
        return cell;
      }
      if (marks[block] == UNTOUCHED) {
        marks[block] = had || purpose == TO_SET ? CHANGED : FRESH;
        changed[changes] = block;
        changes++;
        for (int w = cell; w < cell + WORDS; w++) {
          before[w] = cells[w];
        }
      }
      if (purpose == TO_TAKE) {
        for (int w = cell; w < cell + WORDS; w++) {
          cells[w] = 0;
        }
      }
      return cell;
    }

    private int ofInode(int k, int w) {
      return cells[at(blockOfInode(k), TO_READ) + w];
    }

    private boolean meetDirectory(int d, int mode) {
      if (!meet(d, mode)) {
        return false;
      }
      if (ofInode(d, KIND) != DIRECTORY) {
        fail(NO_DIRECTORY);
        return false;
      }
      return true;
    }

    private boolean meetFile(int k, int mode) {
      if (!meet(k, mode)) {
        return false;
      }
      if (ofInode(k, KIND) != FILE) {
        fail(NO_FILE);
        return false;
      }
      return true;
    }

    /** The block of an inode's word i, or 0. */
    private int blockOf(int k, int i) {
      int cell = at(blockOfInode(k), TO_READ);
      int place = i / WORDS;
      int block = 0;
      if (place < DIRECTS) {
        block = cells[cell + DIRECT + place];
      } else if (isData(cells[cell + INDEX]) && place < PLACES) {
        block = cells[at(cells[cell + INDEX], TO_READ) + place - DIRECTS];
      }
      return isData(block) ? block : 0;
    }

    private int wordOf(int k, int i) {
      int block = blockOf(k, i);
      return block == 0 ? 0 : cells[at(block, TO_READ) + i % WORDS];
    }

    /** The place of the first entry of a name in a directory (of none, if the name is 0), or NONE. */
    private int find(int d, int name) {
      int size = ofInode(d, SIZE);
      for (int i = 0; i < size && i < MOST_WORDS; i += 2) {
        if (wordOf(d, i) == name) {
          return i;
        }
      }
      return NONE;
    }

    /** The place of the n-th entry that there is, or NONE. */
    private int findNth(int d, int n) {
      int size = ofInode(d, SIZE);
      int left = n;
      for (int i = 0; i < size && i < MOST_WORDS; i += 2) {
        if (wordOf(d, i) != 0) {
          if (left == 0) {
            return i;
          }
          left--;
        }
      }
      return NONE;
    }

    private int takeInode(int from) {
      for (int i = 0; i < GROUPS; i++) {
        int group = (from + i) % GROUPS;
        if (!meet(MAPS + group, ALONE)) {
          return NONE;
        }
        int used = cells[at(mapOf(group), TO_READ)];
        for (int j = 0; j < INODES_OF_GROUP; j++) {
          if ((used >> j & 1) == 0) {
            cells[at(mapOf(group), TO_SET)] = used | 1 << j;
            return group * INODES_OF_GROUP + j;
          }
        }
      }
      fail(NO_ROOM);
      return NONE;
    }

    private int takeBlock(int from) {
      for (int i = 0; i < GROUPS; i++) {
        int group = (from + i) % GROUPS;
        if (!meet(MAPS + group, ALONE)) {
          return 0;
        }
        int cell = at(mapOf(group), TO_READ) + 1;
        for (int j = 0; j < DATA_OF_GROUP; j++) {
          if ((cells[cell + j / 32] >> j % 32 & 1) == 0) {
            at(mapOf(group), TO_SET);
            cells[cell + j / 32] |= 1 << j % 32;
            int block = mapOf(group) + FIRST_DATA + j;
            at(block, TO_TAKE);
            return block;
          }
        }
      }
      fail(NO_ROOM);
      return 0;
    }

    /** The block of an inode's word i, taken if there was none; 0 if the try is over. */
    private int placeFor(int k, int i) {
      int there = blockOf(k, i);
      if (there != 0) {
        return there;
      }
      int home = blockOfInode(k);
      int group = k / INODES_OF_GROUP;
      int place = i / WORDS;
      int pointer = home * WORDS + DIRECT + place;
      int holder = home;
      if (place >= DIRECTS) {
        int index = ofInode(k, INDEX);
        if (!isData(index)) {
          index = takeBlock(group);
          if (index == 0) {
            return 0;
          }
          cells[at(home, TO_SET) + INDEX] = index;
        }
        holder = index;
        pointer = index * WORDS + place - DIRECTS;
      }
      int block = takeBlock(group);
      if (block != 0) {
        at(holder, TO_SET);
        cells[pointer] = block;
      }
      return block;
    }

    private boolean giveBack(int block) {
      int group = (block - FIRST_MAP) / GROUP;
      if (!meet(MAPS + group, ALONE)) {
        return false;
      }
      int j = block - mapOf(group) - FIRST_DATA;
      cells[at(mapOf(group), TO_SET) + 1 + j / 32] &= ~(1 << j % 32);
      if (!isGiven[block]) {
        isGiven[block] = true;
        given[gives] = block;
        gives++;
      }
      return true;
    }

    /** Gives back an inode's blocks from a place on, in order: whether the try goes on. */
    private boolean giveBlocks(int k, int from) {
      int home = blockOfInode(k);
      for (int place = from; place < DIRECTS; place++) {
        int block = ofInode(k, DIRECT + place);
        if (isData(block)) {
          if (!giveBack(block)) {
            return false;
          }
          cells[at(home, TO_SET) + DIRECT + place] = 0;
        }
      }
      int index = ofInode(k, INDEX);
      if (!isData(index) || from >= PLACES) {
        return true;
      }
      boolean stays = from > DIRECTS;
      for (int i = Math.max(0, from - DIRECTS); i < WORDS; i++) {
        int block = cells[at(index, TO_READ) + i];
        if (isData(block)) {
          if (!giveBack(block)) {
            return false;
          }
          if (stays) {
            cells[at(index, TO_SET) + i] = 0;
          }
        }
      }
      if (stays) {
        return true;
      }
      if (!giveBack(index)) {
        return false;
      }
      cells[at(home, TO_SET) + INDEX] = 0;
      return true;
    }

    /** Puts an entry into a hole of a directory, or behind its words: whether the try goes on. */
    private boolean put(int d, int hole, int name, int inode) {
      int size = ofInode(d, SIZE);
      int i = hole == NONE ? size : hole;
      if (i < 0 || i >= MOST_WORDS) {
        fail(NO_ROOM);
        return false;
      }
      int block = placeFor(d, i);
      if (block == 0) {
        return false;
      }
      setEntry(block, i, name, inode);
      if (hole == NONE) {
        cells[at(blockOfInode(d), TO_SET) + SIZE] = size + 2;
      }
      return true;
    }

    private void setEntry(int block, int i, int name, int inode) {
      int cell = at(block, TO_SET);
      cells[cell + i % WORDS] = name;
      cells[cell + (i + 1) % WORDS] = inode;
    }

    // ---- the calls

    private void look() {
      if (!meetDirectory(work.a, SHARED)) {
        return;
      }
      int place = find(work.a, work.b);
      if (place == NONE) {
        fail(NO_ENTRY);
      } else {
        value = wordOf(work.a, place + 1);
      }
    }

    private void make() {
      int d = work.a;
      if (!meetDirectory(d, ALONE)) {
        return;
      }
      if (find(d, work.b) != NONE) {
        fail(THERE_IS_ONE);
        return;
      }
      int k = takeInode(d / INODES_OF_GROUP);
      if (k == NONE || !meet(k, ALONE)) {
        return;
      }
      int cell = at(blockOfInode(k), TO_TAKE);
      cells[cell + KIND] = work.c;
      cells[cell + LINKS] = 1;
      if (put(d, find(d, 0), work.b, k)) {
        value = k;
      }
    }

    private void remove() {
      int d = work.a;
      if (!meetDirectory(d, ALONE)) {
        return;
      }
      int place = find(d, work.b);
      int t = place == NONE ? NONE : wordOf(d, place + 1);
      if (!isInode(t)) {
        fail(NO_ENTRY);
        return;
      }
      if (!meet(t, ALONE)) {
        return;
      }
      if (ofInode(t, KIND) == DIRECTORY && findNth(t, 0) != NONE) {
        fail(NOT_EMPTY);
        return;
      }
      setEntry(blockOf(d, place), place, 0, 0);
      int links = ofInode(t, LINKS) - 1;
      cells[at(blockOfInode(t), TO_SET) + LINKS] = links;
      if (links <= 0) {
        giveInode(t);
      }
    }

    private void giveInode(int t) {
      int group = t / INODES_OF_GROUP;
      if (!giveBlocks(t, 0) || !meet(MAPS + group, ALONE)) {
        return;
      }
      cells[at(mapOf(group), TO_SET)] &= ~(1 << t % INODES_OF_GROUP);
      at(blockOfInode(t), TO_TAKE);
    }

    private void link() {
      int d = work.a;
      int k = work.c;
      if (!meetDirectory(d, ALONE)) {
        return;
      }
      if (find(d, work.b) != NONE) {
        fail(THERE_IS_ONE);
        return;
      }
      if (!meetFile(k, ALONE)) {
        return;
      }
      int links = ofInode(k, LINKS) + 1;
      cells[at(blockOfInode(k), TO_SET) + LINKS] = links;
      if (put(d, find(d, 0), work.b, k)) {
        value = links;
      }
    }

    private void rename() {
      int d = work.a;
      int e = work.c;
      if (!meetDirectory(d, ALONE) || !meetDirectory(e, ALONE)) {
        return;
      }
      int place = find(d, work.b);
      int t = place == NONE ? NONE : wordOf(d, place + 1);
      if (!isInode(t)) {
        fail(NO_ENTRY);
        return;
      }
      if (d != e) {
        if (!meet(t, SHARED)) {
          return;
        }
        if (ofInode(t, KIND) == DIRECTORY) {
          fail(ELSEWHERE);
          return;
        }
      } else if (work.b == work.d) {
        return;
      }
      if (find(e, work.d) != NONE) {
        fail(THERE_IS_ONE);
        return;
      }
      setEntry(blockOf(d, place), place, 0, 0);
      put(e, find(e, 0), work.d, t);
    }

    private void read() {
      if (!meetFile(work.a, SHARED)) {
        return;
      }
      if (work.b >= ofInode(work.a, SIZE)) {
        fail(BEHIND);
      } else {
        value = wordOf(work.a, work.b);
      }
    }

    private void write(int i) {
      if (meetFile(work.a, ALONE)) {
        store(work.a, i, work.c, work.kind == ADD);
      }
    }

    /** Sets a file's word, or adds to it: whether the try goes on. */
    private boolean store(int k, int i, int v, boolean adds) {
      int block = placeFor(k, i);
      if (block == 0) {
        return false;
      }
      int cell = at(block, TO_SET) + i % WORDS;
      cells[cell] = adds ? cells[cell] + v : v;
      value = cells[cell];
      if (i + 1 > ofInode(k, SIZE)) {
        cells[at(blockOfInode(k), TO_SET) + SIZE] = i + 1;
      }
      return true;
    }

    private void append() {
      int k = work.a;
      if (!meetFile(k, ALONE)) {
        return;
      }
      int size = ofInode(k, SIZE);
      if (size < 0 || size >= MOST_WORDS) {
        fail(NO_ROOM);
        return;
      }
      if (store(k, size, work.b, false)) {
        value = size;
      }
    }

    private void cut() {
      int k = work.a;
      int size = work.b;
      if (!meetFile(k, ALONE)) {
        return;
      }
      int had = ofInode(k, SIZE);
      if (!giveBlocks(k, (size + WORDS - 1) / WORDS)) {
        return;
      }
      cells[at(blockOfInode(k), TO_SET) + SIZE] = size;
      int block = size % WORDS == 0 ? 0 : blockOf(k, size);
      if (block != 0) {
        int cell = at(block, TO_SET);
        for (int w = size % WORDS; w < WORDS; w++) {
          cells[cell + w] = 0;
        }
      }
      value = had;
    }

    private void entry() {
      if (!meetDirectory(work.a, SHARED)) {
        return;
      }
      int place = findNth(work.a, work.b);
      if (place == NONE) {
        fail(NO_ENTRY);
      } else {
        value = wordOf(work.a, place);
      }
    }

    private void stat() {
      int k = work.a;
      if (!meet(k, SHARED)) {
        return;
      }
      if (ofInode(k, KIND) == 0) {
        fail(NOTHING);
      } else {
        value = work.b < 3 ? ofInode(k, work.b) : blocksOf(k);
      }
    }

    private int blocksOf(int k) {
      int blocks = isData(ofInode(k, INDEX)) ? 1 : 0;
      for (int place = 0; place < PLACES; place++) {
        if (blockOf(k, place * WORDS) != 0) {
          blocks++;
        }
      }
      return blocks;
    }

    private void count() {
      if (!meetDirectory(work.a, SHARED)) {
        return;
      }
      int size = ofInode(work.a, SIZE);
      for (int i = 0; i < size && i < MOST_WORDS; i += 2) {
        if (wordOf(work.a, i) != 0) {
          value++;
        }
      }
    }

    private void room() {
      int used = 0;
      for (int g = 0; g < GROUPS; g++) {
        if (!meet(MAPS + g, SHARED)) {
          return;
        }
        int cell = at(mapOf(g), TO_READ);
        used += Integer.bitCount(cells[cell + 1]) + Integer.bitCount(cells[cell + 2]);
      }
      value = GROUPS * DATA_OF_GROUP - used;
    }
  }

  /** The calls that ended, and what became of what they changed. */
  private static final class Records {
    final World world;
    final int[] facts = new int[KEPT * FACTS];
    /** Whether the flush that a record waits for has begun. */
    final boolean[] inFlush = new boolean[KEPT];
    int count;

    Records(World world) {
      this.world = world;
    }

    void add(int node, Work work, int fate) {
      if (count >= KEPT) {
        return;
      }
      int at = count * FACTS;
      facts[at] = node;
      facts[at + 1] = work.kind;
      facts[at + 2] = work.a;
      facts[at + 3] = work.b;
      facts[at + 4] = work.c;
      facts[at + 5] = work.d;
      facts[at + 6] = work.status;
      facts[at + 7] = work.value;
      facts[at + 8] = world.time;
      facts[at + 9] = fate;
      count++;
    }

    private boolean isUnsafe(int i, int node) {
      return facts[i * FACTS] == node && facts[i * FACTS + 9] == UNSAFE;
    }

    void enterFlush(int node) {
      for (int i = 0; i < count; i++) {
        if (isUnsafe(i, node)) {
          inFlush[i] = true;
        }
      }
    }

    void save(int node) {
      for (int i = 0; i < count; i++) {
        if (inFlush[i] && isUnsafe(i, node)) {
          facts[i * FACTS + 9] = SAFE;
        }
      }
    }

    void lose(int node) {
      for (int i = 0; i < count; i++) {
        if (isUnsafe(i, node)) {
          facts[i * FACTS + 9] = GONE;
        }
      }
    }
  }

  /** Looks at the whole, on a disk of its own where all journals have been brought in. */
  private static final class Whole {
    final World world;
    final int[] disk = new int[CELLS];
    final int[] named = new int[INODES];
    final boolean[] reached = new boolean[INODES];
    final int[] queue = new int[INODES];
    final boolean[] owned = new boolean[BLOCKS];
    final int[] bits = new int[GROUPS * 3];
    int queued;
    boolean namesNothing;
    boolean owesWrongly;

    Whole(World world) {
      this.world = world;
    }

    int check() {
      System.arraycopy(world.disk, 0, disk, 0, CELLS);
      for (int i = 0; i < world.nodes; i++) {
        if (world.joined[i]) {
          replay(disk, i);
        }
      }
      walk();
      if (namesNothing) {
        return 1;
      }
      if (isDirectoryNamedTwice()) {
        return 2;
      }
      if (isOneNotReached()) {
        return 3;
      }
      if (areLinksWrong()) {
        return 4;
      }
      collectBlocks();
      if (owesWrongly) {
        return 5;
      }
      return areMapsWrong() ? 6 : 0;
    }

    private int ofInode(int k, int w) {
      return disk[blockOfInode(k) * WORDS + w];
    }

    /** Goes through all directories from the root on. */
    private void walk() {
      for (int k = 0; k < INODES; k++) {
        named[k] = 0;
        reached[k] = false;
      }
      namesNothing = false;
      reached[0] = true;
      queue[0] = 0;
      queued = 1;
      for (int i = 0; i < queued && i < INODES; i++) {
        int size = ofInode(queue[i], SIZE);
        for (int at = 0; at < size && at < MOST_WORDS; at += 2) {
          if (wordOf(queue[i], at) != 0) {
            reach(wordOf(queue[i], at + 1));
          }
        }
      }
    }

    private void reach(int k) {
      if (!isInode(k) || ofInode(k, KIND) == 0) {
        namesNothing = true;
        return;
      }
      named[k]++;
      if (!reached[k]) {
        reached[k] = true;
        if (ofInode(k, KIND) == DIRECTORY) {
          queue[queued] = k;
          queued++;
        }
      }
    }

    private int pointer(int k, int place) {
      if (place < DIRECTS) {
        return ofInode(k, DIRECT + place);
      }
      int index = ofInode(k, INDEX);
      return isData(index) ? disk[index * WORDS + place - DIRECTS] : 0;
    }

    private int wordOf(int k, int i) {
      int block = pointer(k, i / WORDS);
      return isData(block) ? disk[block * WORDS + i % WORDS] : 0;
    }

    private boolean isDirectoryNamedTwice() {
      for (int k = 1; k < INODES; k++) {
        if (ofInode(k, KIND) == DIRECTORY && named[k] > 1) {
          return true;
        }
      }
      return named[0] > 0;
    }

    private boolean isOneNotReached() {
      for (int k = 1; k < INODES; k++) {
        if (ofInode(k, KIND) != 0 && !reached[k]) {
          return true;
        }
      }
      return false;
    }

    private boolean areLinksWrong() {
      if (ofInode(0, LINKS) != 1) {
        return true;
      }
      for (int k = 1; k < INODES; k++) {
        if (ofInode(k, KIND) != 0 && ofInode(k, LINKS) != named[k]) {
          return true;
        }
      }
      return false;
    }

    private void collectBlocks() {
      for (int block = 0; block < BLOCKS; block++) {
        owned[block] = false;
      }
      Arrays.fill(bits, 0);
      owesWrongly = false;
      for (int k = 0; k < INODES; k++) {
        if (ofInode(k, KIND) != 0) {
          bits[k / INODES_OF_GROUP * 3] |= 1 << k % INODES_OF_GROUP;
          own(ofInode(k, INDEX));
          for (int place = 0; place < PLACES; place++) {
            own(pointer(k, place));
          }
        }
      }
    }

    private void own(int block) {
      if (block == 0) {
        return;
      }
      if (!isData(block) || owned[block]) {
        owesWrongly = true;
        return;
      }
      owned[block] = true;
      int group = (block - FIRST_MAP) / GROUP;
      int j = block - mapOf(group) - FIRST_DATA;
      bits[group * 3 + 1 + j / 32] |= 1 << j % 32;
    }

    private boolean areMapsWrong() {
      for (int g = 0; g < GROUPS; g++) {
        for (int w = 0; w < 3; w++) {
          if (disk[mapOf(g) * WORDS + w] != bits[g * 3 + w]) {
            return true;
          }
        }
      }
      return false;
    }
  }
}

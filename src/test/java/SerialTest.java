import java.util.ArrayList;
import java.util.List;
import java.util.TreeMap;

/**
 * Many nodes at once, with delays and crashes. Calls hold all they met until they end, so the calls
 * that ended, in their order and without those that a crash undid, must answer what a plain file
 * system answers; no resource may be held alone beside another holder; and the whole is never wrong.
 */
public final class SerialTest {
  private long seed;

  private SerialTest(long seed) {
    this.seed = seed;
  }

  public static void main(String[] args) {
    for (int run = 0; run < 60; run++) {
      new SerialTest(run * 7919L + 17).run(run, run % 2 == 1);
    }
    Due.end();
  }

  private int random(int bound) {
    seed = seed * 6364136223846793005L + 1442695040888963407L;
    return (int) ((seed >>> 33) % bound);
  }

  private void run(int run, boolean crashes) {
    int nodes = 2 + run % 3;
    ClusterShelf x = new ClusterShelf(nodes);
    String name = "run " + run;
    for (int step = 0; step < 500; step++) {
      int node = random(nodes);
      if (x.node(node, 0) == 0) {
        raiseUp(x, node);
      } else if (crashes && random(60) == 0) {
        x.crash(node, random(16));
      } else if (random(40) == 0) {
        x.delay(node, random(nodes), 1 + random(6));
      } else if (x.result(node, 0) != 1 && random(3) > 0) {
        begin(x, node);
      } else {
        x.tick(1 + random(12));
      }
      Due.is(name + " step " + step + " about(9)", x.about(9), 0);
      holders(name + " step " + step, x, nodes);
    }
    settle(name, x, nodes);
    compare(name, x);
  }

  private void raiseUp(ClusterShelf x, int node) {
    if (x.node(node, 1) == 1) {
      x.recover(node);
      return;
    }
    for (int other = 0; other < x.about(6); other++) {
      if (x.node(other, 0) == 0 && x.node(other, 1) == 1) {
        return;
      }
    }
    x.start(node);
  }

  private void begin(ClusterShelf x, int node) {
    int inode = random(8);
    int directory = random(3) == 0 ? random(8) : 0;
    int name = 1 + random(7);
    int place = random(3) == 0 ? random(384) : random(40);
    switch (random(15)) {
      case 0: x.call(node, Due.LOOK, directory, name, 0, 0); break;
      case 1:
      case 2: x.call(node, Due.MAKE, directory, name, 1 + random(2), 0); break;
      case 3: x.call(node, Due.REMOVE, directory, name, 0, 0); break;
      case 4: x.call(node, Due.LINK, directory, name, inode, 0); break;
      case 5: x.call(node, Due.RENAME, directory, name, random(4), 1 + random(7)); break;
      case 6: x.call(node, Due.READ, inode, place, 0, 0); break;
      case 7: x.call(node, Due.WRITE, inode, place, random(1000), 0); break;
      case 8: x.call(node, Due.CUT, inode, random(385), 0, 0); break;
      case 9: x.call(node, Due.ENTRY, directory, random(5), 0, 0); break;
      case 10: x.call(node, Due.STAT, inode, random(4), 0, 0); break;
      case 11: x.call(node, Due.ADD, inode, place, random(1000), 0); break;
      case 12: x.call(node, Due.APPEND, inode, random(1000), 0, 0); break;
      case 13: x.call(node, Due.COUNT, directory, 0, 0, 0); break;
      default: x.call(node, random(2) == 0 ? Due.SYNC : Due.ROOM, 0, 0, 0, 0); break;
    }
  }

  private static void holders(String what, ClusterShelf x, int nodes) {
    for (int r = 0; r < 136; r++) {
      int alone = 0;
      int any = 0;
      for (int node = 0; node < nodes; node++) {
        int mode = x.lock(node, r, 0);
        alone += mode == 2 ? 1 : 0;
        any += mode > 0 ? 1 : 0;
      }
      if (alone > 0) {
        Due.is(what + ": holders of " + r, any, 1);
      }
    }
  }

  /** All nodes up, all calls ended, all logs written. */
  private void settle(String name, ClusterShelf x, int nodes) {
    for (int turn = 0; turn < 2; turn++) {
      for (int node = 0; node < nodes; node++) {
        if (x.node(node, 0) == 0) {
          raiseUp(x, node);
        }
      }
    }
    for (int t = 0; t < 30; t++) {
      x.tick(100);
    }
    for (int node = 0; node < nodes; node++) {
      Due.is(name + " no call waits for ever", x.result(node, 0) == 1 ? 1 : 0, 0);
      Due.run(x, node, Due.SYNC);
    }
    Due.is(name + " at the end", x.about(9), 0);
  }

  private static void compare(String name, ClusterShelf x) {
    Plain plain = new Plain();
    int kept = Math.min(400, x.about(4));
    boolean lostSome = false;
    for (int i = 0; i < kept; i++) {
      lostSome = lostSome || x.history(i, 9) == 3;
    }
    for (int i = 0; i < kept; i++) {
      int fate = x.history(i, 9);
      boolean changes = fate == 1 || fate == 2;
      Due.is(name + " call " + i + " is safe at the end", fate == 1 ? 1 : 0, 0);
      // A call that changed nothing may have seen what a crash undid later.
      if (changes || !lostSome && fate == 0) {
        int want = plain.call(x.history(i, 1), x.history(i, 2), x.history(i, 3), x.history(i, 4),
            x.history(i, 5));
        String what = name + " call " + i + " of kind " + x.history(i, 1);
        Due.is(what, x.history(i, 7), want);
        Due.is(what + " stands", x.history(i, 6), plain.isFault ? 3 : 2);
      }
    }
    if (x.about(4) <= 400) {
      plain.compare(name, x);
    }
  }

  /** A file system as plain as it can be: words of inodes, no blocks but their counts. */
  private static final class Plain {
    private final int[] kind = new int[128];
    private final int[] links = new int[128];
    private final int[] size = new int[128];
    private final List<TreeMap<Integer, int[]>> blocks = new ArrayList<>();
    private boolean isFault;

    Plain() {
      for (int k = 0; k < 128; k++) {
        blocks.add(new TreeMap<>());
      }
      kind[0] = 2;
      links[0] = 1;
    }

    private int fault(int fault) {
      isFault = true;
      return fault;
    }

    private int get(int k, int i) {
      int[] block = blocks.get(k).get(i / 16);
      return block == null ? 0 : block[i % 16];
    }

    private void set(int k, int i, int v) {
      blocks.get(k).computeIfAbsent(i / 16, j -> new int[16])[i % 16] = v;
      size[k] = Math.max(size[k], i + 1);
    }

    private int find(int d, int name) {
      for (int i = 0; i < size[d]; i += 2) {
        if (get(d, i) == name) {
          return i;
        }
      }
      return -1;
    }

    private int entries(int d) {
      int entries = 0;
      for (int i = 0; i < size[d]; i += 2) {
        entries += get(d, i) != 0 ? 1 : 0;
      }
      return entries;
    }

    private void put(int d, int name, int k) {
      int i = find(d, 0) >= 0 ? find(d, 0) : size[d];
      set(d, i, name);
      set(d, i + 1, k);
    }

    private void rub(int d, int i) {
      set(d, i, 0);
      set(d, i + 1, 0);
    }

    private int blocksOf(int k) {
      int count = blocks.get(k).size();
      boolean index = count > 0 && blocks.get(k).lastKey() >= 8 || keepsIndex(k);
      return count + (index ? 1 : 0);
    }

    /** A cut to more than 128 keeps the index, though it may have no block left. */
    private final boolean[] index = new boolean[128];

    private boolean keepsIndex(int k) {
      return index[k];
    }

    int call(int what, int a, int b, int c, int d) {
      isFault = false;
      switch (what) {
        case Due.LOOK:
        case Due.MAKE:
        case Due.REMOVE:
        case Due.LINK:
        case Due.RENAME:
        case Due.ENTRY:
        case Due.COUNT: return kind[a] == 2 ? inDirectory(what, a, b, c, d) : fault(-2);
        case Due.STAT: return stat(a, b);
        case Due.SYNC: return 0;
        case Due.ROOM: return room();
        default: return kind[a] == 1 ? inFile(what, a, b, c) : fault(-4);
      }
    }

    private int inDirectory(int what, int a, int b, int c, int d) {
      int at = b == 0 ? -1 : find(a, b);
      switch (what) {
        case Due.LOOK: return at < 0 ? fault(-3) : get(a, at + 1);
        case Due.MAKE: return at >= 0 ? fault(-6) : make(a, b, c);
        case Due.REMOVE: return at < 0 ? fault(-3) : remove(a, at);
        case Due.LINK:
          if (at >= 0) {
            return fault(-6);
          }
          if (kind[c] != 1) {
            return fault(-4);
          }
          put(a, b, c);
          links[c]++;
          return links[c];
        case Due.RENAME: return kind[c] != 2 ? fault(-2) : at < 0 ? fault(-3) : rename(a, at, c, d);
        case Due.ENTRY: return entry(a, b);
        default: return entries(a);
      }
    }

    private int make(int d, int name, int what) {
      for (int i = 0; i < 128; i++) {
        int k = (d / 16 * 16 + i) % 128;
        if (kind[k] == 0) {
          kind[k] = what;
          links[k] = 1;
          put(d, name, k);
          return k;
        }
      }
      return fault(-7);
    }

    private int remove(int d, int at) {
      int t = get(d, at + 1);
      if (kind[t] == 2 && entries(t) > 0) {
        return fault(-8);
      }
      rub(d, at);
      links[t]--;
      if (links[t] == 0) {
        kind[t] = 0;
        size[t] = 0;
        index[t] = false;
        blocks.get(t).clear();
      }
      return 0;
    }

    private int rename(int d, int at, int e, int other) {
      int t = get(d, at + 1);
      if (d != e && kind[t] == 2) {
        return fault(-9);
      }
      if (d == e && get(d, at) == other) {
        return 0;
      }
      if (find(e, other) >= 0) {
        return fault(-6);
      }
      rub(d, at);
      put(e, other, t);
      return 0;
    }

    private int entry(int d, int n) {
      int left = n;
      for (int i = 0; i < size[d]; i += 2) {
        if (get(d, i) != 0 && left-- == 0) {
          return get(d, i);
        }
      }
      return fault(-3);
    }

    private int stat(int k, int what) {
      if (kind[k] == 0) {
        return fault(-5);
      }
      return what == 0 ? kind[k] : what == 1 ? links[k] : what == 2 ? size[k] : blocksOf(k);
    }

    private int room() {
      int free = 376;
      for (int k = 0; k < 128; k++) {
        free -= kind[k] == 0 ? 0 : blocksOf(k);
      }
      return free;
    }

    private int inFile(int what, int k, int i, int v) {
      switch (what) {
        case Due.READ: return i >= size[k] ? fault(-10) : get(k, i);
        case Due.CUT: return cut(k, i);
        case Due.APPEND:
          if (size[k] == 384) {
            return fault(-7);
          }
          int place = size[k];
          set(k, place, i);
          index[k] = index[k] || place >= 128;
          return place;
        default:
          int word = what == Due.ADD ? get(k, i) + v : v;
          set(k, i, word);
          index[k] = index[k] || i >= 128;
          return word;
      }
    }

    private int cut(int k, int to) {
      int had = size[k];
      blocks.get(k).tailMap((to + 15) / 16, true).clear();
      index[k] = index[k] && to > 128;
      int[] last = blocks.get(k).get(to / 16);
      for (int w = to % 16; last != null && w < 16; w++) {
        last[w] = 0;
      }
      size[k] = to;
      return had;
    }

    /** All inodes, as the disk has them. */
    void compare(String name, ClusterShelf x) {
      for (int k = 0; k < 128; k++) {
        int block = Due.inodeBlock(k);
        Due.is(name + " kind of " + k, x.word(block, 0), kind[k]);
        Due.is(name + " links of " + k, x.word(block, 1), links[k]);
        Due.is(name + " size of " + k, x.word(block, 2), size[k]);
        for (int i = 0; i < size[k]; i++) {
          int index = x.word(block, 11);
          int at = i < 128 ? x.word(block, 3 + i / 16)
              : index == 0 ? 0 : x.word(index, i / 16 - 8);
          Due.is(name + " word " + i + " of " + k, at == 0 ? 0 : x.word(at, i % 16), get(k, i));
        }
      }
    }
  }
}

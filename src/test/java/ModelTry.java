import java.util.Map;
import java.util.TreeMap;
import java.util.TreeSet;

/**
 * One try of a call of the model. What it changes stands beside the cache until the model keeps it,
 * so there is nothing to undo; what it reads comes into the cache and stays there.
 */
final class ModelTry {
  /** It met a resource that is not pinned. */
  static final class Lacks extends RuntimeException {
    final int resource;
    final int mode;

    Lacks(int resource, int mode) {
      super(null, null, false, false);
      this.resource = resource;
      this.mode = mode;
    }
  }

  static final class Fault extends RuntimeException {
    final int fault;

    Fault(int fault) {
      super(null, null, false, false);
      this.fault = fault;
    }
  }

  final Map<Integer, int[]> changed = new TreeMap<>();
  final TreeSet<Integer> given = new TreeSet<>();
  private final Model model;
  private final Model.Node node;
  private final Model.Call call;

  ModelTry(Model model, Model.Node node, Model.Call call) {
    this.model = model;
    this.node = node;
    this.call = call;
  }

  int run() {
    int a = call.given[0];
    int b = call.given[1];
    int c = call.given[2];
    int d = call.given[3];
    switch (call.kind) {
      case Due.LOOK: return look(a, b);
      case Due.MAKE: return make(a, b, c);
      case Due.REMOVE: return remove(a, b);
      case Due.LINK: return link(a, b, c);
      case Due.RENAME: return rename(a, b, c, d);
      case Due.READ: return read(a, b);
      case Due.WRITE: return write(a, b, c, false);
      case Due.CUT: return cut(a, b);
      case Due.ENTRY: return entry(a, b);
      case Due.STAT: return stat(a, b);
      case Due.ADD: return write(a, b, c, true);
      case Due.APPEND: return append(a, b);
      case Due.COUNT: return count(a);
      case Due.ROOM: return room();
      default: return 0;
    }
  }

  // ---- words

  private int[] words(int block) {
    int[] words = changed.get(block);
    return words != null ? words : node.cache.computeIfAbsent(block, b -> model.disk[b].clone());
  }

  private int get(int block, int w) {
    return words(block)[w];
  }

  private void set(int block, int w, int v) {
    if (!changed.containsKey(block)) {
      changed.put(block, words(block).clone());
    }
    changed.get(block)[w] = v;
  }

  private void setWhole(int block) {
    changed.put(block, new int[16]);
  }

  private int inode(int k, int w) {
    return get(Due.inodeBlock(k), w);
  }

  private void setInode(int k, int w, int v) {
    set(Due.inodeBlock(k), w, v);
  }

  /** The block of an inode's word i, or 0. */
  private int block(int k, int i) {
    if (i < 128) {
      return inode(k, 3 + i / 16);
    }
    int index = inode(k, 11);
    return index == 0 ? 0 : get(index, (i - 128) / 16);
  }

  private int word(int k, int i) {
    int block = block(k, i);
    return block == 0 ? 0 : get(block, i % 16);
  }

  // ---- what calls meet

  private void meet(int resource, int mode) {
    if (!node.pinned.contains(resource) || node.holds[resource] < mode) {
      throw new Lacks(resource, mode);
    }
  }

  private void meetDirectory(int d, int mode) {
    meet(d, mode);
    if (inode(d, 0) != 2) {
      throw new Fault(-2);
    }
  }

  private void meetFile(int k, int mode) {
    meet(k, mode);
    if (inode(k, 0) != 1) {
      throw new Fault(-4);
    }
  }

  /** Where the first entry of a name is, or -1. */
  private int find(int d, int name) {
    int size = inode(d, 2);
    for (int i = 0; i < size; i += 2) {
      if (word(d, i) == name) {
        return i;
      }
    }
    return -1;
  }

  private int found(int d, int name) {
    int i = find(d, name);
    if (i < 0) {
      throw new Fault(-3);
    }
    return i;
  }

  private void notFound(int d, int name) {
    if (find(d, name) >= 0) {
      throw new Fault(-6);
    }
  }

  // ---- what is taken, put and given back

  private int takeInode(int d) {
    for (int i = 0; i < 8; i++) {
      int g = (d / 16 + i) % 8;
      meet(128 + g, 2);
      int map = 128 + 64 * g;
      for (int j = 0; j < 16; j++) {
        if ((get(map, 0) & 1 << j) == 0) {
          set(map, 0, get(map, 0) | 1 << j);
          return 16 * g + j;
        }
      }
    }
    throw new Fault(-7);
  }

  private int takeBlock(int k) {
    for (int i = 0; i < 8; i++) {
      int g = (k / 16 + i) % 8;
      meet(128 + g, 2);
      int map = 128 + 64 * g;
      for (int j = 0; j < 47; j++) {
        int w = j < 32 ? 1 : 2;
        int bit = 1 << (j < 32 ? j : j - 32);
        if ((get(map, w) & bit) == 0) {
          set(map, w, get(map, w) | bit);
          setWhole(map + 17 + j);
          return map + 17 + j;
        }
      }
    }
    throw new Fault(-7);
  }

  private void giveBack(int block) {
    int g = (block - 128) / 64;
    meet(128 + g, 2);
    int map = 128 + 64 * g;
    int j = block - map - 17;
    int w = j < 32 ? 1 : 2;
    set(map, w, get(map, w) & ~(1 << (j < 32 ? j : j - 32)));
    given.add(block);
  }

  /** The block of word i, which is taken if there is none. */
  private int needBlock(int k, int i) {
    int block = block(k, i);
    if (block != 0) {
      return block;
    }
    if (i >= 128 && inode(k, 11) == 0) {
      setInode(k, 11, takeBlock(k));
    }
    block = takeBlock(k);
    if (i < 128) {
      setInode(k, 3 + i / 16, block);
    } else {
      set(inode(k, 11), (i - 128) / 16, block);
    }
    return block;
  }

  private void put(int d, int name, int k) {
    int size = inode(d, 2);
    int hole = find(d, 0);
    if (hole < 0 && size == 384) {
      throw new Fault(-7);
    }
    int i = hole < 0 ? size : hole;
    int block = needBlock(d, i);
    set(block, i % 16, name);
    set(block, i % 16 + 1, k);
    if (hole < 0) {
      setInode(d, 2, size + 2);
    }
  }

  private void takeAway(int d, int i) {
    int block = block(d, i);
    set(block, i % 16, 0);
    set(block, i % 16 + 1, 0);
  }

  // ---- the calls

  private int look(int d, int name) {
    meetDirectory(d, 1);
    return word(d, found(d, name) + 1);
  }

  private int make(int d, int name, int kind) {
    meetDirectory(d, 2);
    notFound(d, name);
    int k = takeInode(d);
    meet(k, 2);
    setWhole(Due.inodeBlock(k));
    setInode(k, 0, kind);
    setInode(k, 1, 1);
    put(d, name, k);
    return k;
  }

  private int remove(int d, int name) {
    meetDirectory(d, 2);
    int i = found(d, name);
    int t = word(d, i + 1);
    meet(t, 2);
    if (inode(t, 0) == 2) {
      for (int at = 0; at < inode(t, 2); at += 2) {
        if (word(t, at) != 0) {
          throw new Fault(-8);
        }
      }
    }
    takeAway(d, i);
    setInode(t, 1, inode(t, 1) - 1);
    if (inode(t, 1) == 0) {
      for (int at = 0; at < 384; at += 16) {
        if (block(t, at) != 0) {
          giveBack(block(t, at));
        }
      }
      if (inode(t, 11) != 0) {
        giveBack(inode(t, 11));
      }
      int map = 128 + 64 * (t / 16);
      meet(128 + t / 16, 2);
      set(map, 0, get(map, 0) & ~(1 << t % 16));
      setWhole(Due.inodeBlock(t));
    }
    return 0;
  }

  private int link(int d, int name, int k) {
    meetDirectory(d, 2);
    notFound(d, name);
    meetFile(k, 2);
    setInode(k, 1, inode(k, 1) + 1);
    put(d, name, k);
    return inode(k, 1);
  }

  private int rename(int d, int name, int e, int other) {
    meetDirectory(d, 2);
    meetDirectory(e, 2);
    int i = found(d, name);
    int t = word(d, i + 1);
    if (d != e) {
      meet(t, 1);
      if (inode(t, 0) == 2) {
        throw new Fault(-9);
      }
    }
    if (d == e && name == other) {
      return 0;
    }
    notFound(e, other);
    takeAway(d, i);
    put(e, other, t);
    return 0;
  }

  private int read(int k, int i) {
    meetFile(k, 1);
    if (i >= inode(k, 2)) {
      throw new Fault(-10);
    }
    return word(k, i);
  }

  private int write(int k, int i, int v, boolean adds) {
    meetFile(k, 2);
    int block = needBlock(k, i);
    int word = adds ? get(block, i % 16) + v : v;
    set(block, i % 16, word);
    if (i + 1 > inode(k, 2)) {
      setInode(k, 2, i + 1);
    }
    return word;
  }

  private int append(int k, int v) {
    meetFile(k, 2);
    int size = inode(k, 2);
    if (size == 384) {
      throw new Fault(-7);
    }
    write(k, size, v, false);
    return size;
  }

  private int cut(int k, int size) {
    meetFile(k, 2);
    int had = inode(k, 2);
    int index = inode(k, 11);
    for (int at = (size + 15) / 16 * 16; at < 384; at += 16) {
      int block = block(k, at);
      if (block != 0) {
        giveBack(block);
        set(at < 128 ? Due.inodeBlock(k) : index, at < 128 ? 3 + at / 16 : (at - 128) / 16, 0);
      }
    }
    if (size <= 128 && index != 0) {
      giveBack(index);
      setInode(k, 11, 0);
    }
    setInode(k, 2, size);
    int last = size % 16 == 0 ? 0 : block(k, size);
    for (int w = size % 16; last != 0 && w < 16; w++) {
      set(last, w, 0);
    }
    return had;
  }

  private int entry(int d, int n) {
    meetDirectory(d, 1);
    int left = n;
    int size = inode(d, 2);
    for (int i = 0; i < size; i += 2) {
      if (word(d, i) != 0) {
        if (left == 0) {
          return word(d, i);
        }
        left--;
      }
    }
    throw new Fault(-3);
  }

  private int stat(int k, int what) {
    meet(k, 1);
    if (inode(k, 0) == 0) {
      throw new Fault(-5);
    }
    if (what < 3) {
      return inode(k, what);
    }
    int blocks = inode(k, 11) == 0 ? 0 : 1;
    for (int at = 0; at < 384; at += 16) {
      blocks += block(k, at) == 0 ? 0 : 1;
    }
    return blocks;
  }

  private int count(int d) {
    meetDirectory(d, 1);
    int entries = 0;
    int size = inode(d, 2);
    for (int i = 0; i < size; i += 2) {
      entries += word(d, i) == 0 ? 0 : 1;
    }
    return entries;
  }

  private int room() {
    int free = 0;
    for (int g = 0; g < 8; g++) {
      meet(128 + g, 1);
      int map = 128 + 64 * g;
      free += 47 - Integer.bitCount(get(map, 1)) - Integer.bitCount(get(map, 2));
    }
    return free;
  }
}

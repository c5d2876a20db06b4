import java.util.Arrays;
import java.util.TreeSet;

/**
 * Section 2: "A try reads words in order up to where the answer is known, and no block that it needn't;
 * what it read stays in the cache when it is undone." Node 0 lays out files and directories, node 1,
 * whose cache is empty, begins one call: its cache must have the blocks that are due, and no more.
 */
public final class Edges2ReadingTest {
  private static final int ROOT = 0;
  /** Words in the places 0, 2, 8 and 12, so that it has an index. */
  private static final int FILE = 1;
  /** 70 entries in nine blocks, the last one by its index; the names are 101 .. 170. */
  private static final int MANY = 2;
  private static final int EMPTY = 3;
  /** One entry, of the name 7. */
  private static final int FEW = 4;
  /** In the root behind the names 1 .. 4: names of FILE up to 20, in three blocks. */
  private static final int LAST_NAME = 20;
  private static final int MAP = 128;

  private ClusterShelf x;

  public static void main(String[] args) {
    Edges2ReadingTest test = new Edges2ReadingTest();
    test.entries();
    test.wordsOfFiles();
    test.stat();
    test.faults();
    test.renames();
    test.taken();
    test.given();
    test.undone();
    test.undoneForTheLog();
    Due.end();
  }

  private void layOut() {
    x = new ClusterShelf(2);
    int[] kinds = {1, 2, 2, 2};
    for (int i = 0; i < kinds.length; i++) {
      Due.done("laid out", x, i + 1, 0, Due.MAKE, ROOT, i + 1, kinds[i]);
    }
    int[] places = {0, 2, 8, 12};
    for (int place : places) {
      Due.go(x, 0, Due.WRITE, FILE, 16 * place + 1, 1000 + place);
    }
    for (int name = 5; name <= LAST_NAME; name++) {
      Due.go(x, 0, Due.LINK, ROOT, name, FILE);
    }
    for (int name = 101; name <= 170; name++) {
      Due.go(x, 0, Due.LINK, MANY, name, FILE);
    }
    Due.go(x, 0, Due.LINK, FEW, 7, FILE);
    Due.go(x, 0, Due.SYNC);
    Due.is("all is on the disk", x.node(0, 2) + x.node(0, 3), 0);
    Due.is("nothing in node 1's cache", x.node(1, 5), 0);
  }

  private static int inode(int k) {
    return Due.inodeBlock(k);
  }

  private int index(int k) {
    return x.word(inode(k), 11);
  }

  private int block(int k, int place) {
    return place < 8 ? x.word(inode(k), 3 + place) : x.word(index(k), place - 8);
  }

  private void has(String what, int... blocks) {
    TreeSet<Integer> due = new TreeSet<>();
    Arrays.stream(blocks).forEach(due::add);
    TreeSet<Integer> got = new TreeSet<>();
    for (int block = 0; block < 640; block++) {
      if (Due.isCached(x, 1, block)) {
        got.add(block);
      }
    }
    Due.same(what + ": the cache has " + got + ", due is " + due, got.toString(), due.toString());
    Due.is(what + ": blocks in the cache", x.node(1, 5), due.size());
  }

  private int[] blocks(int k, int from, int to) {
    int[] blocks = new int[to - from];
    for (int i = 0; i < blocks.length; i++) {
      blocks[i] = block(k, from + i);
    }
    return blocks;
  }

  private static int[] with(int[] blocks, int... more) {
    int[] all = Arrays.copyOf(blocks, blocks.length + more.length);
    System.arraycopy(more, 0, all, blocks.length, more.length);
    return all;
  }

  private void call(int want, int kind, int... given) {
    layOut();
    Due.is("call of kind " + kind, Due.go(x, 1, kind, given), want);
  }

  /** Begins a call of node 1, and lets time go on until it has asked for a resource. */
  private void until(int resource, int kind, int... given) {
    layOut();
    Due.begin(x, 1, kind, given);
    for (int t = 0; t < 200 && x.lock(1, resource, 1) == 0; t++) {
      x.tick(1);
    }
    Due.is("asked for " + resource, x.lock(1, resource, 1) > 0 ? 1 : 0, 1);
  }

  private void entries() {
    call(FILE, Due.LOOK, ROOT, 8);
    has("up to the first block's last entry", inode(ROOT), block(ROOT, 0));
    call(FILE, Due.LOOK, ROOT, 9);
    has("up to the second block", with(blocks(ROOT, 0, 2), inode(ROOT)));
    call(FILE, Due.LOOK, MANY, 164);
    has("the last one ahead of the index", with(blocks(MANY, 0, 8), inode(MANY)));
    call(FILE, Due.LOOK, MANY, 165);
    has("the first one behind it", with(blocks(MANY, 0, 9), inode(MANY), index(MANY)));
    call(-3, Due.LOOK, ROOT, 99);
    has("all of them", with(blocks(ROOT, 0, 3), inode(ROOT)));
    call(-3, Due.LOOK, EMPTY, 1);
    has("none", inode(EMPTY));
    call(108, Due.ENTRY, MANY, 7);
    has("the eighth entry", inode(MANY), block(MANY, 0));
    call(109, Due.ENTRY, MANY, 8);
    has("the ninth entry", with(blocks(MANY, 0, 2), inode(MANY)));
    call(-3, Due.ENTRY, MANY, 70);
    has("no such entry", with(blocks(MANY, 0, 9), inode(MANY), index(MANY)));
    call(20, Due.COUNT, ROOT);
    has("a count", with(blocks(ROOT, 0, 3), inode(ROOT)));
    call(70, Due.COUNT, MANY);
    has("a count with an index", with(blocks(MANY, 0, 9), inode(MANY), index(MANY)));
  }

  private void wordsOfFiles() {
    call(1000, Due.READ, FILE, 1);
    has("a word", inode(FILE), block(FILE, 0));
    call(0, Due.READ, FILE, 20);
    has("a word without a block", inode(FILE));
    call(1012, Due.READ, FILE, 193);
    has("a word by the index", inode(FILE), index(FILE), block(FILE, 12));
    call(0, Due.READ, FILE, 150);
    has("none by the index", inode(FILE), index(FILE));
    call(-10, Due.READ, FILE, 194);
    has("behind", inode(FILE));
    call(5, Due.WRITE, FILE, 3, 5);
    has("a word that is set", inode(FILE), block(FILE, 0));
    call(1013, Due.ADD, FILE, 193, 1);
    has("a word by the index that is set", inode(FILE), index(FILE), block(FILE, 12));
    call(194, Due.APPEND, FILE, 5);
    has("the word behind the last one", inode(FILE), index(FILE), block(FILE, 12));
  }

  private void stat() {
    int[] due = {1, 1 + 16 + 70 + 1, 194, 5};
    for (int what = 0; what < 3; what++) {
      call(due[what], Due.STAT, FILE, what);
      has("stat " + what, inode(FILE));
    }
    call(due[3], Due.STAT, FILE, 3);
    has("stat 3", inode(FILE), index(FILE));
    call(3, Due.STAT, ROOT, 3);
    has("stat 3 without an index", inode(ROOT));
    call(-5, Due.STAT, 9, 3);
    has("stat of nothing", inode(9));
  }

  private void faults() {
    call(-2, Due.LOOK, FILE, 1);
    has("no directory", inode(FILE));
    call(-4, Due.READ, ROOT, 0);
    has("no file", inode(ROOT));
    call(-6, Due.MAKE, ROOT, 2, 1);
    has("there is one", inode(ROOT), block(ROOT, 0));
    call(-6, Due.LINK, ROOT, 2, FILE);
    has("there is one, the file isn't met", inode(ROOT), block(ROOT, 0));
    call(-4, Due.LINK, FEW, 8, MANY);
    has("a directory to link", inode(FEW), block(FEW, 0), inode(MANY));
    call(-3, Due.REMOVE, FEW, 8);
    has("no entry to remove", inode(FEW), block(FEW, 0));
    call(-8, Due.REMOVE, ROOT, MANY);
    has("its first entry is enough", inode(ROOT), block(ROOT, 0), inode(MANY), block(MANY, 0));
  }

  private void renames() {
    call(-2, Due.RENAME, MANY, 101, FILE, 1);
    has("no directory e", inode(MANY), inode(FILE));
    call(-3, Due.RENAME, FEW, 8, MANY, 8);
    has("no entry in d", inode(FEW), block(FEW, 0), inode(MANY));
    call(-9, Due.RENAME, ROOT, EMPTY, MANY, 101);
    has("elsewhere", inode(ROOT), block(ROOT, 0), inode(MANY), inode(EMPTY));
    call(-6, Due.RENAME, FEW, 7, MANY, 110);
    has("e has other",
        with(blocks(MANY, 0, 2), inode(MANY), inode(FEW), block(FEW, 0), inode(FILE)));
    call(0, Due.RENAME, ROOT, 3, ROOT, 3);
    has("nothing more", inode(ROOT), block(ROOT, 0));
    call(-6, Due.RENAME, ROOT, 20, ROOT, 3);
    has("d is e", with(blocks(ROOT, 0, 3), inode(ROOT)));
  }

  /** What is taken is not read, but in the cache when the call has ended. */
  private void taken() {
    call(5, Due.MAKE, EMPTY, 1, 1);
    Due.go(x, 1, Due.SYNC);
    has("an inode and a block are taken", inode(EMPTY), MAP, inode(5), block(EMPTY, 0));
    call(9, Due.WRITE, FILE, 20, 9);
    Due.go(x, 1, Due.SYNC);
    has("a block is taken", inode(FILE), MAP, block(FILE, 1));
    call(9, Due.WRITE, FILE, 150, 9);
    Due.go(x, 1, Due.SYNC);
    has("a block for the index", inode(FILE), index(FILE), MAP, block(FILE, 9));
  }

  /** What is given back is not read. */
  private void given() {
    call(0, Due.REMOVE, FEW, 7);
    has("links are left", inode(FEW), block(FEW, 0), inode(FILE));
    call(0, Due.REMOVE, ROOT, EMPTY);
    has("without blocks", inode(ROOT), block(ROOT, 0), inode(EMPTY), MAP);
    call(194, Due.CUT, FILE, 384);
    has("no block behind it", inode(FILE));
    call(194, Due.CUT, FILE, 368);
    has("the index's last word", inode(FILE), index(FILE));
    call(194, Due.CUT, FILE, 32);
    has("all behind the second place", inode(FILE), MAP);
    call(194, Due.CUT, FILE, 34);
    has("the third block's end", inode(FILE), MAP, block(FILE, 2));
    call(194, Due.CUT, FILE, 196);
    has("the last block's end", inode(FILE), index(FILE), block(FILE, 12));
  }

  /** What a try read is there while the call waits for what it met. */
  private void undone() {
    until(MAP, Due.MAKE, ROOT, 30, 1);
    has("up to the map", with(blocks(ROOT, 0, 3), inode(ROOT)));
    until(5, Due.MAKE, ROOT, 30, 1);
    has("up to the new inode", with(blocks(ROOT, 0, 3), inode(ROOT), MAP));
    Due.is("the map is as it was", x.cached(1, MAP, 0), 31);
    until(FILE, Due.REMOVE, ROOT, FILE);
    has("up to the entry's inode", inode(ROOT), block(ROOT, 0));
    Due.is("the entry is there", x.cached(1, block(ROOT, 0), 0), 1);
    until(MAP, Due.REMOVE, ROOT, EMPTY);
    has("up to the inode's map", inode(ROOT), block(ROOT, 0), inode(EMPTY));
    Due.is("the entry is there again", x.cached(1, block(ROOT, 0), 4), 3);
    Due.is("and the link", x.cached(1, inode(EMPTY), 1), 1);
    until(FILE, Due.RENAME, FEW, 7, MANY, 1);
    has("up to its inode", inode(FEW), block(FEW, 0), inode(MANY));
    until(MAP, Due.WRITE, FILE, 20, 1);
    has("up to the map of a block", inode(FILE));
    until(MAP, Due.WRITE, FILE, 150, 1);
    has("up to the map of a block by the index", inode(FILE), index(FILE));
    until(MAP, Due.CUT, FILE, 0);
    has("up to the first block's map", inode(FILE));
    until(MAP, Due.CUT, FILE, 129);
    has("up to the map of the index's first block", inode(FILE), index(FILE));
    until(MAP + 3, Due.ROOM);
    has("the maps ahead of it", MAP, MAP + 64, MAP + 128);
  }

  /** A log of 16 blocks: node 1 has written a word of FILE, made inode 5 in EMPTY, and filled that. */
  private void fillLog() {
    layOut();
    Due.go(x, 1, Due.WRITE, FILE, 2, 5);
    Due.go(x, 1, Due.MAKE, EMPTY, 1, 1);
    for (int place = 0; place < 16 && x.node(1, 2) < 16; place++) {
      Due.is("at once", Due.begin(x, 1, Due.WRITE, 5, 16 * place, 1), 1);
    }
    Due.is("blocks of the log", x.node(1, 2), 16);
  }

  /** Begins a call that is too much for the log, and lets time go on until it waits for that. */
  private void tooMuch(int kind, int... given) {
    fillLog();
    Due.begin(x, 1, kind, given);
    for (int t = 0; t < 20 && x.node(1, 3) == 0; t++) {
      x.tick(1);
    }
    Due.is("a flush begins", x.node(1, 4), 1);
    Due.is("it is under way", x.result(1, 0), 1);
  }

  /** A try that is too much for the log: what came from the disk stays, what was taken goes. */
  private void undoneForTheLog() {
    fillLog();
    int before = x.node(1, 5);
    tooMuch(Due.WRITE, FILE, 34, 77);
    Due.is("the block came", x.node(1, 5), before + 1);
    Due.is("with what it had", x.cached(1, block(FILE, 2), 1), 1002);
    Due.is("and no more", x.cached(1, block(FILE, 2), 2), 0);
    x.tick(40);
    Due.is("done", x.result(1, 1), 77);
    Due.is("and set", x.cached(1, block(FILE, 2), 2), 77);
    tooMuch(Due.WRITE, 5, 16 * 20, 1);
    Due.is("a block that was taken went", x.node(1, 5), before);
    tooMuch(Due.MAKE, EMPTY, 2, 1);
    Due.is("a new inode went", x.node(1, 5), before);
    Due.is("it is not in the cache", Due.isCached(x, 1, inode(6)) ? 1 : 0, 0);
    x.tick(40);
    Due.is("made", x.result(1, 1), 6);
    Due.is("it is in the cache", x.node(1, 5), before + 1);
  }
}

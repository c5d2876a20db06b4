/** Section 3: CUT, at each size where something else goes, is read or is changed. */
public final class Edges3CutTest {
  private static final int[] SIZES = {
    0, 1, 15, 16, 17, 111, 112, 113, 127, 128, 129, 143, 144, 145, 352, 353, 367, 368, 369, 370, 383, 384
  };

  public static void main(String[] args) {
    for (int size : SIZES) {
      ofAWholeFile(size);
      ofAnEmptyFile(size);
      ofOneBlock(size);
    }
    indexAlone();
    within();
    givenBackInOrder();
    stopsAtTheFirstThatLacks();
    indexOfAnotherGroup();
    blockOfAnotherGroup();
    Due.end();
  }

  /** File 1 of 24 blocks and an index, the first and last word of each set, on the disk. */
  private static ClusterShelf whole() {
    ClusterShelf x = new ClusterShelf(2);
    Due.go(x, 0, Due.MAKE, 0, 5, 1);
    for (int place = 0; place < 24; place++) {
      Due.go(x, 0, Due.WRITE, 1, 16 * place, 1000 + place);
      Due.go(x, 0, Due.WRITE, 1, 16 * place + 15, 2000 + place);
    }
    Due.go(x, 0, Due.SYNC);
    return x;
  }

  /** By node 1, which has nothing of the file in its cache. */
  private static void ofAWholeFile(int size) {
    ClusterShelf x = whole();
    String what = "cut to " + size;
    int index = x.word(130, 11);
    int blocks = (size + 15) / 16;
    boolean goes = size <= 368;
    boolean keepsIndex = size > 128;
    boolean hasTail = size % 16 != 0;
    Due.done(what, x, 384, 1, Due.CUT, 1, size);
    Due.is(what + ": inode and map are met", x.result(1, 4), goes ? 2 : 1);
    int changed = 1 + (goes ? 1 : 0) + (goes && keepsIndex ? 1 : 0) + (hasTail ? 1 : 0);
    Due.is(what + ": inode, map, index, last block are changed", x.node(1, 2), changed);
    boolean readsIndex = keepsIndex && (size < 369 || hasTail);
    Due.is(what + ": the index is read", Due.isCached(x, 1, index) ? 1 : 0, readsIndex ? 1 : 0);
    int cached = 1 + (goes ? 1 : 0) + (readsIndex ? 1 : 0) + (hasTail ? 1 : 0);
    Due.is(what + ": cache", x.node(1, 5), cached);
    int left = blocks + (keepsIndex ? 1 : 0);
    Due.done(what + ": its blocks", x, left, 1, Due.STAT, 1, 3);
    Due.done(what + ": its size", x, size, 1, Due.STAT, 1, 2);
    if (size > 0) {
      Due.done(what + ": its last word", x, word(size - 1), 1, Due.READ, 1, size - 1);
    }
    if (size < 384) {
      Due.fault(what + ": behind", x, -10, 1, Due.READ, 1, size);
    }
    Due.done(what + ": free", x, 375 - left, 1, Due.ROOM);
    Due.done(what + ": back to 384", x, size, 1, Due.CUT, 1, 384);
    for (int i = 0; i < 384; i++) {
      if (i % 16 == 0 || i % 16 == 15 || i == size) {
        Due.done(what + ": word " + i, x, i < size ? word(i) : 0, 1, Due.READ, 1, i);
      }
    }
    places(what, x, size, index);
  }

  private static int word(int i) {
    return i % 16 == 0 ? 1000 + i / 16 : i % 16 == 15 ? 2000 + i / 16 : 0;
  }

  /** "their places in the inode and the index are 0 then". */
  private static void places(String what, ClusterShelf x, int size, int index) {
    Due.done(what + ": sync", x, 0, 1, Due.SYNC);
    for (int place = 0; place < 8; place++) {
      Due.is(what + ": place " + place, x.word(130, 3 + place), 16 * place < size ? 146 + place : 0);
    }
    Due.is(what + ": index", x.word(130, 11), size > 128 ? index : 0);
    for (int place = 8; size > 128 && place < 24; place++) {
      int want = 16 * place < size ? index + place - 7 : 0;
      Due.is(what + ": place " + place, x.word(index, place - 8), want);
    }
    Due.is(what + ": about(9)", x.about(9), 0);
  }

  /** "the size is that now, also a greater one": no block is taken for it. */
  private static void ofAnEmptyFile(int size) {
    ClusterShelf x = new ClusterShelf(2);
    Due.go(x, 0, Due.MAKE, 0, 5, 1);
    Due.go(x, 0, Due.SYNC);
    Due.done("an empty file to " + size, x, 0, 0, Due.CUT, 1, size);
    Due.is("the inode alone is changed", x.node(0, 2), 1);
    Due.is("and met", x.result(0, 4), 1);
    Due.done("size", x, size, 0, Due.STAT, 1, 2);
    Due.done("no block", x, 0, 0, Due.STAT, 1, 3);
    if (size > 0) {
      Due.done("its last word", x, 0, 0, Due.READ, 1, size - 1);
    }
    if (size < 384) {
      Due.fault("behind", x, -10, 0, Due.READ, 1, size);
      Due.done("append", x, size, 0, Due.APPEND, 1, 8);
    }
    Due.done("to 0", x, size < 384 ? size + 1 : 384, 0, Due.CUT, 1, 0);
    Due.done("nothing is left", x, 375, 0, Due.ROOM);
  }

  /** Words 0 .. 4, in one block: what is behind the size in it is set to 0, if the size is in it. */
  private static void ofOneBlock(int size) {
    ClusterShelf x = new ClusterShelf(2);
    Due.go(x, 0, Due.MAKE, 0, 5, 1);
    for (int i = 0; i < 5; i++) {
      Due.go(x, 0, Due.WRITE, 1, i, 70 + i);
    }
    Due.go(x, 0, Due.SYNC);
    Due.done("words 0 .. 4 to " + size, x, 5, 0, Due.CUT, 1, size);
    // With 0 the block goes: inode and map; with 1 .. 15 it is the last one: inode and block.
    Due.is("changed by " + size, x.node(0, 2), size < 16 ? 2 : 1);
    Due.done("blocks", x, size == 0 ? 0 : 1, 0, Due.STAT, 1, 3);
    Due.done("more", x, size, 0, Due.CUT, 1, 384);
    for (int i = 0; i < 20; i++) {
      Due.done("word " + i, x, i < 5 && i < size ? 70 + i : 0, 0, Due.READ, 1, i);
    }
  }

  /** "if size is 128 or less, then the index, if it has one", also one without a block. */
  private static void indexAlone() {
    ClusterShelf x = new ClusterShelf(2);
    Due.go(x, 0, Due.MAKE, 0, 5, 1);
    Due.go(x, 0, Due.WRITE, 1, 150, 7);
    Due.done("to 129", x, 151, 0, Due.CUT, 1, 129);
    Due.done("the index alone", x, 1, 0, Due.STAT, 1, 3);
    Due.done("to 384", x, 129, 0, Due.CUT, 1, 384);
    Due.done("it stays", x, 1, 0, Due.STAT, 1, 3);
    Due.done("no word", x, 0, 0, Due.READ, 1, 150);
    Due.done("a block, but no index is taken", x, 9, 0, Due.WRITE, 1, 383, 9);
    Due.done("both", x, 2, 0, Due.STAT, 1, 3);
    Due.done("to 368", x, 384, 0, Due.CUT, 1, 368);
    Due.done("the index alone", x, 1, 0, Due.STAT, 1, 3);
    Due.done("to 128", x, 368, 0, Due.CUT, 1, 128);
    Due.done("none", x, 0, 0, Due.STAT, 1, 3);
    Due.go(x, 0, Due.SYNC);
    Due.is("about(9)", x.about(9), 0);
    Due.is("the root's", x.about(7), 1);
  }

  /** Within one block, to less and to more. */
  private static void within() {
    ClusterShelf x = whole();
    Due.done("to 372", x, 384, 0, Due.CUT, 1, 372);
    Due.done("to 380", x, 372, 0, Due.CUT, 1, 380);
    Due.done("what was cut stays 0", x, 0, 0, Due.READ, 1, 379);
    Due.done("a word behind the first", x, 4, 0, Due.WRITE, 1, 379, 4);
    Due.done("to the same", x, 380, 0, Due.CUT, 1, 380);
    Due.done("the word stays", x, 4, 0, Due.READ, 1, 379);
    Due.done("to one less", x, 380, 0, Due.CUT, 1, 379);
    Due.done("to one more", x, 379, 0, Due.CUT, 1, 380);
    Due.done("the word went", x, 0, 0, Due.READ, 1, 379);
    Due.done("the first word stays", x, 1023, 0, Due.READ, 1, 368);
  }

  /** What was given back is free at once for the same node, the least block first. */
  private static void givenBackInOrder() {
    ClusterShelf x = whole();
    Due.done("to 100", x, 384, 0, Due.CUT, 1, 100);
    Due.is("blocks 0 .. 7 of the group are used", x.cached(0, 128, 1), 255);
    Due.nsee("it left the cache", () -> x.cached(0, 153, 0));
    Due.done("the next block", x, 3, 0, Due.WRITE, 1, 112, 3);
    Due.is("is the one that was given back", x.cached(0, 130, 10), 153);
    Due.is("all 0", x.cached(0, 153, 15), 0);
    Due.is("but the word", x.cached(0, 153, 0), 3);
    Due.is("on the disk it is as it was", x.word(153, 15), 2007);
  }

  private static void untilListed(ClusterShelf x, int resources) {
    for (int t = 0; t < 200 && x.result(1, 4) < resources; t++) {
      x.tick(1);
    }
    Due.is("list", x.result(1, 4), resources);
  }

  /** "no block that it needn't": a try that meets what isn't pinned reads nothing behind that. */
  private static void stopsAtTheFirstThatLacks() {
    ClusterShelf x = whole();
    Due.begin(x, 1, Due.CUT, 1, 5);
    untilListed(x, 2);
    Due.is("the inode, not the last block", x.node(1, 5), 1);
    ClusterShelf y = whole();
    Due.begin(y, 1, Due.CUT, 1, 133);
    untilListed(y, 2);
    Due.is("the inode and the index, not the last block", y.node(1, 5), 2);
    ClusterShelf z = whole();
    Due.begin(z, 1, Due.REMOVE, 0, 5);
    untilListed(z, 3);
    Due.is("the root, its block, the inode, not the index", z.node(1, 5), 3);
  }

  /** Group 0 has no block left: file 2 has its index there, but the index's block in group 1. */
  private static ClusterShelf fullGroup() {
    ClusterShelf x = new ClusterShelf(2);
    for (int k = 1; k <= 4; k++) {
      Due.go(x, 0, Due.MAKE, 0, k, 1);
    }
    // With the root's block 1 + 25 + 8 + 12 of the 47.
    int[][] files = {{1, 24}, {2, 8}, {3, 11}};
    for (int[] file : files) {
      for (int place = 0; place < file[1]; place++) {
        Due.go(x, 0, Due.WRITE, file[0], 16 * place, 7);
      }
    }
    Due.go(x, 0, Due.WRITE, 2, 128, 8);
    Due.go(x, 0, Due.WRITE, 4, 0, 9);
    Due.go(x, 0, Due.SYNC);
    Due.is("the index is the last one of group 0", x.word(131, 11), 191);
    Due.is("its block the first one of group 1", x.word(191, 0), 209);
    Due.is("and that of file 4 the second", x.word(133, 3), 210);
    return x;
  }

  private static void indexOfAnotherGroup() {
    ClusterShelf x = fullGroup();
    Due.begin(x, 1, Due.CUT, 2, 120);
    untilListed(x, 2);
    Due.is("first the block's map", x.lock(1, 129, 3), 2);
    Due.is("inode and index", x.node(1, 5), 2);
    untilListed(x, 3);
    Due.is("then the index's", x.lock(1, 128, 3), 2);
    Due.is("inode, index, map of group 1", x.node(1, 5), 3);
    x.tick(50);
    Due.is("it ends", x.result(1, 1), 129);
    Due.is("inode, both maps, last block", x.node(1, 2), 4);
    Due.done("sync", x, 0, 1, Due.SYNC);
    Due.is("about(9)", x.about(9), 0);
  }

  /** REMOVE: "its blocks are GIVEN BACK .. and then the inode (its group's map (2) ..)". */
  private static void blockOfAnotherGroup() {
    ClusterShelf x = fullGroup();
    Due.begin(x, 1, Due.REMOVE, 0, 4);
    untilListed(x, 3);
    Due.is("first the block's map", x.lock(1, 129, 3), 2);
    Due.is("not yet its own", x.lock(1, 128, 3), 0);
    untilListed(x, 4);
    Due.is("then its own", x.lock(1, 128, 3), 2);
    x.tick(50);
    Due.is("it ends", x.result(1, 0), 2);
    Due.is("root's block, inode, both maps", x.node(1, 2), 4);
    Due.done("sync", x, 0, 1, Due.SYNC);
    Due.is("about(9)", x.about(9), 0);
  }
}

/** Promise 2 and sections 3 and 4: lists, pins, asking, calling back, going down, full logs. */
public final class P02LocksTest {
  private static final int NONE = ClusterShelf.NONE;

  public static void main(String[] args) {
    modes();
    listGrows();
    shareAndCallBack();
    downToShared();
    pinnedStays();
    raise();
    rowInOrder();
    fullLog();
    logsNoMore();
    otherMaps();
    mapsInOrder();
    broughtStays();
    readsNoMore();
    undoneLeavesNothing();
    flushAgain();
    Due.end();
  }

  /** The mode in which each kind meets its first resource. */
  private static void modes() {
    int[] due = {1, 2, 2, 2, 2, 1, 2, 2, 1, 1, 0, 2, 2, 1, 0};
    for (int kind = 0; kind < due.length; kind++) {
      ClusterShelf x = new ClusterShelf(2);
      x.call(0, kind, 3, 1, 1, 1);
      Due.is("mode of kind " + kind, x.lock(0, 3, 3), due[kind]);
      Due.is("asked by kind " + kind, x.lock(0, 3, 1), due[kind]);
    }
    ClusterShelf x = new ClusterShelf(2);
    Due.begin(x, 0, Due.ROOM);
    Due.is("a map, to count", x.lock(0, 128, 3), 1);
    Due.done("directory", x, 1, 1, Due.MAKE, 0, 5, 2);
    Due.done("file", x, 2, 1, Due.MAKE, 0, 6, 1);
    Due.done("sync", x, 0, 1, Due.SYNC);
    x.tick(100);
    Due.begin(x, 0, Due.RENAME, 0, 6, 1, 7);
    for (int t = 0; t < 100 && x.lock(0, 2, 3) == 0; t++) {
      x.tick(1);
    }
    Due.is("the other directory", x.lock(0, 1, 3), 2);
    Due.is("the inode that is renamed", x.lock(0, 2, 3), 1);
  }

  /** MAKE meets the root, the map of group 0 and inode 1, one by one. */
  private static void listGrows() {
    ClusterShelf x = new ClusterShelf(3);
    Due.is("begins", Due.begin(x, 0, Due.MAKE, 0, 5, 1), 0);
    Due.is("list", x.result(0, 4), 1);
    Due.is("tries", x.result(0, 3), 1);
    Due.is("asked for the root", x.lock(0, 0, 1), 2);
    Due.is("listed", x.lock(0, 0, 3), 2);
    x.tick(2);
    Due.is("holds the root", x.lock(0, 0, 0), 2);
    Due.is("tries", x.result(0, 3), 2);
    Due.is("asked for the map", x.lock(0, 128, 1), 2);
    Due.is("a request to its master", x.message(0, 1), 2);
    x.tick(2);
    Due.is("tries", x.result(0, 3), 3);
    Due.is("inode 1 waits, as it is first", x.lock(0, 1, 1), 2);
    Due.is("list", x.result(0, 4), 3);
    Due.is("read stays: inode and map", x.node(0, 5), 2);
    Due.is("the map is undone", x.cached(0, 128, 0), 1);
    Due.is("ends", x.tick(2), 1);
    Due.is("tries", x.result(0, 3), 4);
    Due.is("ticks", x.result(0, 2), 6);
    Due.is("log: map, root, inode, block", x.node(0, 2), 4);
    Due.is("cache", x.node(0, 5), 4);
    Due.is("the map is changed", x.cached(0, 128, 0), 3);
    Due.is("not on the disk", x.word(128, 0), 1);
    Due.is("list was", x.result(0, 4), 3);
    Due.is("no list now", x.lock(0, 0, 3), 0);
  }

  private static void shareAndCallBack() {
    ClusterShelf x = new ClusterShelf(2);
    Due.done("node 0 shares", x, 0, 0, Due.COUNT, 0);
    Due.done("node 1 shares", x, 0, 1, Due.COUNT, 0);
    Due.is("both hold it", x.lock(0, 0, 0) + x.lock(1, 0, 0), 2);
    Due.is("given to both", x.lock(0, 0, 4) + x.lock(1, 0, 4), 2);
    Due.begin(x, 1, Due.MAKE, 0, 5, 1);
    x.tick(1);
    Due.is("row", x.row(0, 1), 1);
    Due.is("one call back, as the asking one doesn't count", x.about(1), 1);
    int[] callBack = {0, 0, 2, 0, 0, 2};
    for (int what = 0; what < 5; what++) {
      Due.is("call back " + what, x.message(0, what), callBack[what]);
    }
    Due.is("cached", x.node(0, 5), 1);
    x.tick(1);
    Due.is("it is held no more", x.lock(0, 0, 0), 0);
    Due.is("its block left the cache", x.node(0, 5), 0);
    Due.is("the master doesn't know yet", x.lock(0, 0, 4), 1);
    Due.is("a release goes", x.message(0, 2), 3);
    x.tick(1);
    Due.is("released", x.lock(0, 0, 4), 0);
    Due.is("a grant goes", x.message(0, 2), 1);
    Due.is("given", x.lock(1, 0, 4), 2);
    Due.is("not there yet", x.lock(1, 0, 0), 1);
    x.tick(1);
    Due.is("alone", x.lock(1, 0, 0), 2);
  }

  /** One that holds alone is called back to shared, writes what it changed, and keeps its cache. */
  private static void downToShared() {
    ClusterShelf x = new ClusterShelf(2);
    Due.done("make", x, 1, 0, Due.MAKE, 0, 5, 1);
    Due.is("log", x.node(0, 2), 4);
    Due.begin(x, 1, Due.LOOK, 0, 5);
    x.tick(2);
    Due.is("called back", x.lock(0, 0, 2), 1);
    Due.is("it still holds it", x.lock(0, 0, 0), 2);
    Due.is("writes left of 11", x.node(0, 3), 10);
    Due.is("nine more", x.tick(9), 0);
    Due.is("one left", x.node(0, 3), 1);
    x.tick(1);
    Due.is("went down", x.lock(0, 0, 0), 1);
    Due.is("called back no more", x.lock(0, 0, 2), NONE);
    Due.is("cache stays", x.node(0, 5), 4);
    Due.is("released", x.message(0, 4), 1);
    Due.is("then a grant, and it ends", x.tick(2), 1);
    Due.is("it found", x.result(1, 1), 1);
    Due.is("other locks stay", x.lock(0, 128, 0), 2);
    // The inode's data leave the cache with it, when it is called back to 0.
    Due.done("write", x, 7, 0, Due.WRITE, 1, 200, 7);
    Due.is("root, its block, map, inode, index, data", x.node(0, 5), 6);
    Due.done("by the other", x, 8, 1, Due.WRITE, 1, 200, 8);
    Due.is("inode, index and data went", x.node(0, 5), 3);
    Due.is("the map stays", x.lock(0, 128, 0), 2);
  }

  /** A pinned resource stays, though it is called back, until its call is over. */
  private static void pinnedStays() {
    ClusterShelf x = new ClusterShelf(3);
    x.delay(1, 0, 10);
    Due.begin(x, 0, Due.MAKE, 0, 5, 1);
    x.tick(4);
    Due.is("it waits for inode 1", x.lock(0, 1, 1), 2);
    Due.begin(x, 2, Due.LOOK, 0, 5);
    Due.begin(x, 1, Due.ROOM);
    x.tick(2);
    Due.is("the root is called back", x.lock(0, 0, 2), 1);
    Due.is("but pinned", x.lock(0, 0, 0), 2);
    Due.is("the map is behind inode 1, and not pinned", x.lock(0, 128, 0), 1);
    Due.is("it is not called back any more", x.lock(0, 128, 2), NONE);
    x.tick(9);
    Due.is("inode 1 came", x.lock(0, 1, 0), 2);
    Due.is("now the map is asked for again", x.lock(0, 128, 1), 2);
    Due.is("it is under way", x.result(0, 0), 1);
    for (int t = 0; t < 30 && x.result(0, 0) == 1; t++) {
      Due.is("the root is held alone", x.lock(0, 0, 0), 2);
      x.tick(1);
    }
    Due.is("done", x.result(0, 0), 2);
    Due.is("a flush begins at once", x.node(0, 3), 10);
    Due.is("the other one waits", x.result(2, 0), 1);
    x.tick(12);
    Due.is("it has found it", x.result(2, 1), 1);
  }

  /** What is held shared is raised; of two that want that the first one has it first. */
  private static void raise() {
    ClusterShelf x = new ClusterShelf(2);
    Due.done("shared", x, 0, 0, Due.COUNT, 0);
    Due.begin(x, 0, Due.REMOVE, 0, 5);
    Due.is("it asks for more", x.lock(0, 0, 1), 2);
    Due.is("it holds", x.lock(0, 0, 0), 1);
    Due.is("none is against it", x.tick(2), 1);
    Due.is("raised", x.lock(0, 0, 0), 2);
    Due.is("what is held is enough for less", Due.begin(x, 0, Due.COUNT, 0), 1);
    Due.is("it stays alone", x.lock(0, 0, 0), 2);
  }

  private static void rowInOrder() {
    ClusterShelf x = new ClusterShelf(2);
    Due.done("shared", x, 0, 0, Due.COUNT, 0);
    Due.done("shared", x, 0, 1, Due.COUNT, 0);
    Due.begin(x, 0, Due.REMOVE, 0, 5);
    Due.begin(x, 1, Due.REMOVE, 0, 5);
    x.tick(1);
    int[] row = {0, 2, 0, 2, 1, 2, NONE, NONE};
    for (int what = 0; what < row.length; what++) {
      Due.is("row " + what, x.row(0, what), row[what]);
    }
    Due.is("one call back", x.about(1), 1);
    Due.is("it goes to node 1", x.message(0, 1), 1);
    x.tick(1);
    Due.is("it holds nothing", x.lock(1, 0, 0), 0);
    Due.is("it has asked still", x.lock(1, 0, 1), 2);
    x.tick(1);
    Due.is("a grant, and a call back behind it", x.about(1), 2);
    Due.is("the grant", x.message(0, 2), 1);
    Due.is("the call back", x.message(1, 2), 2);
    Due.is("one is left in the row", x.row(0, 1), 1);
    Due.is("that of node 1", x.row(0, 2), 1);
    Due.is("node 0 ends", x.tick(1), 1);
    Due.is("and goes down at once", x.lock(0, 0, 0), 0);
    Due.is("node 1 ends", x.tick(2), 1);
    Due.is("alone", x.lock(1, 0, 0), 2);
  }

  /** Writes one word of each block of file 1 from one place to another. */
  private static void writes(ClusterShelf x, int from, int to) {
    for (int place = from; place < to; place++) {
      Due.is("at once", Due.begin(x, 0, Due.WRITE, 1, 16 * place, place), 1);
    }
  }

  private static void fullLog() {
    ClusterShelf x = new ClusterShelf(2);
    Due.done("make", x, 1, 0, Due.MAKE, 0, 5, 1);
    writes(x, 0, 11);
    Due.is("log is full", x.node(0, 2), 16);
    Due.is("no flush is needed", x.node(0, 4), 0);
    Due.is("one of these again", Due.begin(x, 0, Due.WRITE, 1, 0, 5), 1);
    int cached = x.node(0, 5);
    Due.is("one more waits", Due.begin(x, 0, Due.WRITE, 1, 16 * 11, 11), 0);
    Due.is("its tries", x.result(0, 3), 3);
    Due.is("its list", x.result(0, 4), 2);
    Due.is("all is in the flush", x.node(0, 3), 35);
    Due.is("the log is empty", x.node(0, 2), 0);
    Due.is("one flush", x.node(0, 4), 1);
    Due.is("what it took is undone", x.node(0, 5), cached);
    Due.is("the size, too", x.cached(0, 130, 2), 161);
    Due.is("it waits", x.tick(34), 0);
    Due.is("it ends", x.tick(1), 1);
    Due.is("its tries", x.result(0, 3), 4);
    Due.is("its ticks", x.result(0, 2), 35);
    Due.is("log: map, inode, index, block", x.node(0, 2), 4);
    Due.is("no flush, as none waits", x.node(0, 3), 0);

    ClusterShelf y = new ClusterShelf(2);
    Due.done("make", y, 1, 0, Due.MAKE, 0, 5, 1);
    writes(y, 0, 11);
    Due.is("what is given back doesn't count", Due.begin(y, 0, Due.REMOVE, 0, 5), 1);
    Due.is("log: map, root, inode, root's block", y.node(0, 2), 4);
    Due.is("cache", y.node(0, 5), 4);
    Due.nsee("given back", () -> y.cached(0, 146, 0));
  }

  /** When a flush is over, and the log has something again for which one waits. */
  private static void flushAgain() {
    ClusterShelf x = new ClusterShelf(2);
    Due.done("make", x, 1, 0, Due.MAKE, 0, 5, 1);
    Due.begin(x, 1, Due.LOOK, 0, 5);
    x.tick(2);
    Due.is("a flush", x.node(0, 3), 10);
    writes(x, 0, 13);
    Due.is("log is full", x.node(0, 2), 16);
    Due.is("one more waits", Due.begin(x, 0, Due.WRITE, 1, 16 * 13, 13), 0);
    Due.is("no other flush yet", x.node(0, 4), 1);
    Due.is("the log stays", x.node(0, 2), 16);
    x.tick(10);
    Due.is("the second one", x.node(0, 4), 2);
    Due.is("none of it is written yet", x.node(0, 3), 35);
    Due.is("the root waits", x.lock(0, 0, 2), 1);
    Due.is("alone", x.lock(0, 0, 0), 2);
    Due.is("the call ends", x.tick(35), 1);
    Due.is("by node 0", x.result(0, 0), 2);
    Due.is("the root went down ahead of it", x.lock(0, 0, 0), 1);
    Due.is("no third one", x.node(0, 3), 0);
    Due.is("log", x.node(0, 2), 4);
    Due.is("the other one ends", x.tick(2), 1);

    ClusterShelf y = new ClusterShelf(2);
    Due.done("make", y, 1, 0, Due.MAKE, 0, 5, 1);
    Due.begin(y, 1, Due.LOOK, 0, 5);
    y.tick(2);
    writes(y, 0, 1);
    y.tick(10);
    Due.is("another one, for the root that waits", y.node(0, 4), 2);
    Due.is("map, inode, block", y.node(0, 3), 9);
    Due.is("the root waits", y.lock(0, 0, 2), 1);
    y.tick(9);
    Due.is("the root went down", y.lock(0, 0, 0), 1);
  }

  /** No block is changed, and no resource met, that needn't be. */
  private static void logsNoMore() {
    ClusterShelf x = new ClusterShelf(2);
    Due.done("make", x, 1, 0, Due.MAKE, 0, 5, 1);
    Due.done("write", x, 1, 0, Due.WRITE, 1, 20, 1);
    Due.done("sync", x, 0, 0, Due.SYNC);
    Due.done("at the end again", x, 2, 0, Due.WRITE, 1, 20, 2);
    Due.is("the size isn't set", x.node(0, 2), 1);
    Due.is("the inode alone is met", x.result(0, 4), 1);
    Due.done("behind the end", x, 2, 0, Due.ADD, 1, 21, 2);
    Due.is("the size is set", x.node(0, 2), 2);
    Due.done("sync", x, 0, 0, Due.SYNC);
    Due.done("cut where nothing goes", x, 22, 0, Due.CUT, 1, 21);
    Due.is("inode and last block", x.node(0, 2), 2);
    Due.is("no map is met", x.result(0, 4), 1);
    int cached = x.node(0, 5);
    Due.done("cut without an index", x, 21, 0, Due.CUT, 1, 16);
    Due.is("inode and map", x.node(0, 2), 2);
    Due.is("the map is met", x.result(0, 4), 2);
    Due.is("the block left the cache", x.node(0, 5), cached - 1);
    Due.done("links", x, 2, 0, Due.LINK, 0, 6, 1);
    Due.done("sync", x, 0, 0, Due.SYNC);
    Due.done("one link less", x, 0, 0, Due.REMOVE, 0, 6);
    Due.is("the entry's block and the inode", x.node(0, 2), 2);
    Due.is("no map is met", x.result(0, 4), 2);
    Due.done("sync", x, 0, 0, Due.SYNC);
    Due.done("rename", x, 0, 0, Due.RENAME, 0, 5, 0, 7);
    Due.is("the entry's block", x.node(0, 2), 1);
    Due.done("sync", x, 0, 0, Due.SYNC);
    Due.done("with an index", x, 5, 0, Due.WRITE, 1, 130, 5);
    Due.done("sync", x, 0, 0, Due.SYNC);
    Due.done("read", x, 5, 0, Due.READ, 1, 130);
    Due.is("nothing is changed", x.node(0, 2), 0);
    Due.done("where there is a block", x, 6, 0, Due.WRITE, 1, 129, 6);
    Due.is("the block alone", x.node(0, 2), 1);
    Due.done("sync", x, 0, 0, Due.SYNC);
    Due.done("cut to more", x, 131, 0, Due.CUT, 1, 200);
    Due.is("the inode alone", x.node(0, 2), 1);
    Due.done("cut to none", x, 200, 0, Due.CUT, 1, 0);
    Due.done("sync", x, 0, 0, Due.SYNC);

    // 16 blocks without those of the root: with the entry's block they would be too many.
    writes(x, 1, 8);
    writes(x, 9, 14);
    Due.is("map, inode, 7 blocks, index, 5 blocks", x.node(0, 2), 15);
    Due.is("one more", Due.begin(x, 0, Due.WRITE, 1, 14 * 16, 1), 1);
    Due.is("full", x.node(0, 2), 16);
    Due.is("all of them are given back", Due.begin(x, 0, Due.REMOVE, 0, 7), 1);
    Due.is("entry's block, inode, map", x.node(0, 2), 3);
  }

  /** When group 0 has no block left, its map is met and read, but not changed. */
  private static void otherMaps() {
    ClusterShelf x = new ClusterShelf(2);
    Due.done("make", x, 1, 0, Due.MAKE, 0, 5, 1);
    Due.done("make", x, 2, 0, Due.MAKE, 0, 6, 1);
    for (int place = 0; place < 24; place++) {
      Due.done("write", x, place, 0, Due.WRITE, 1, 16 * place, place);
    }
    for (int place = 0; place < 20; place++) {
      Due.done("write", x, place, 0, Due.WRITE, 2, 16 * place, place);
    }
    Due.done("sync", x, 0, 0, Due.SYNC);
    Due.is("all of group 0 but none", x.about(7), 47);
    Due.done("of group 1", x, 7, 0, Due.WRITE, 2, 350, 7);
    Due.is("inode, map, block, index", x.node(0, 2), 4);
    Due.is("inode and both maps", x.result(0, 4), 3);
    Due.is("the first one of group 1", x.cached(0, 209, 350 % 16), 7);
    Due.is("map of group 1", x.cached(0, 192, 1), 1);
    Due.done("given back", x, 351, 0, Due.CUT, 2, 0);
    Due.is("both maps", x.result(0, 4), 3);
    Due.is("map of group 1", x.cached(0, 192, 1), 0);
    Due.is("map of group 0", x.cached(0, 128, 1), (1 << 26) - 1);
    Due.is("map of group 0", x.cached(0, 128, 2), 0);

    // Inodes likewise.
    for (int k = 3; k < 16; k++) {
      Due.done("make", x, k, 0, Due.MAKE, 0, 100 + k, 1);
    }
    Due.done("sync", x, 0, 0, Due.SYNC);
    Due.done("of group 1", x, 16, 0, Due.MAKE, 0, 116, 1);
    Due.is("root and its block, map, inode", x.node(0, 2), 4);
    Due.is("root, inode and both maps", x.result(0, 4), 4);
  }

  /** Maps are met one by one, as the blocks that are given back come. */
  private static void mapsInOrder() {
    ClusterShelf x = new ClusterShelf(2);
    Due.done("make", x, 1, 0, Due.MAKE, 0, 5, 1);
    Due.done("make", x, 2, 0, Due.MAKE, 0, 6, 1);
    for (int place = 0; place < 24; place++) {
      Due.done("write", x, place, 0, Due.WRITE, 1, 16 * place, place);
    }
    for (int place = 0; place < 24; place++) {
      Due.done("write", x, place, 0, Due.WRITE, 2, 16 * place, place);
    }
    Due.begin(x, 1, Due.CUT, 2, 140);
    int[] order = {2, 128, 129};
    for (int i = 0; i < order.length; i++) {
      for (int t = 0; t < 200 && x.result(1, 4) == i; t++) {
        x.tick(1);
      }
      Due.is("list", x.result(1, 4), i + 1);
      Due.is("the next one in it", x.lock(1, order[i], 3), 2);
    }
  }

  /** What came from the disk to be changed stays, as it was there, when that is undone. */
  private static void broughtStays() {
    ClusterShelf x = new ClusterShelf(2);
    Due.done("make", x, 1, 1, Due.MAKE, 0, 5, 1);
    Due.done("write", x, 77, 1, Due.WRITE, 1, 383, 77);
    Due.done("size", x, 384, 0, Due.STAT, 1, 2);
    Due.done("in node 0", x, 0, 0, Due.WRITE, 1, 0, 0);
    Due.rest(x);
    writes(x, 1, 8);
    writes(x, 9, 14);
    Due.is("map, inode, 8 blocks, index, 5 blocks", x.node(0, 2), 16);
    int block = x.cached(0, x.cached(0, 130, 11), 15);
    Due.nsee("not read yet", () -> x.cached(0, block, 15));
    Due.is("one more waits", Due.begin(x, 0, Due.WRITE, 1, 383, 78), 0);
    Due.is("undone", x.cached(0, block, 15), 77);
    Due.is("it ends", x.tick(35), 1);
    Due.is("done", x.cached(0, block, 15), 78);
  }

  /** No block is read that isn't needed. */
  private static void readsNoMore() {
    ClusterShelf x = new ClusterShelf(2);
    for (int k = 1; k <= 9; k++) {
      Due.done("make", x, k, 0, Due.MAKE, 0, 100 + k, 1);
    }
    Due.done("write", x, 4, 0, Due.WRITE, 1, 0, 4);
    Due.done("write", x, 4, 0, Due.WRITE, 1, 140, 4);
    Due.done("in the first block", x, 8, 1, Due.LOOK, 0, 108);
    Due.is("root and a block", x.node(1, 5), 2);
    Due.done("in the second block", x, 109, 1, Due.ENTRY, 0, 8);
    Due.is("root and both", x.node(1, 5), 3);
    Due.fault("behind", x, -10, 1, Due.READ, 1, 141);
    Due.is("the inode", x.node(1, 5), 4);
    Due.done("no block", x, 0, 1, Due.READ, 1, 20);
    Due.done("size", x, 141, 1, Due.STAT, 1, 2);
    Due.is("the inode alone", x.node(1, 5), 4);
    Due.done("blocks", x, 3, 1, Due.STAT, 1, 3);
    Due.is("the index", x.node(1, 5), 5);
    Due.done("read", x, 4, 1, Due.READ, 1, 140);
    Due.is("its block", x.node(1, 5), 6);
    Due.done("all go", x, 0, 0, Due.REMOVE, 0, 101);
    Due.is("all of both inodes left the cache", x.node(1, 5), 0);
  }

  /** A fault, and what is undone, leaves nothing changed. */
  private static void undoneLeavesNothing() {
    ClusterShelf x = new ClusterShelf(2);
    Due.done("file", x, 1, 0, Due.MAKE, 0, 1000, 1);
    for (int i = 1; i < 192; i++) {
      Due.done("link", x, i + 1, 0, Due.LINK, 0, i, 1);
    }
    Due.done("sync", x, 0, 0, Due.SYNC);
    Due.fault("an inode is taken, but no entry is free", x, -7, 0, Due.MAKE, 0, 500, 1);
    Due.is("log", x.node(0, 2), 0);
    Due.is("map", x.cached(0, 128, 0), 3);
    Due.is("it changed nothing", x.history(x.about(4) - 1, 9), 0);
    Due.nsee("the inode that wasn't made", () -> x.cached(0, 131, 0));
    Due.fault("it is read", x, -5, 0, Due.STAT, 2, 0);
    Due.fault("no entry is free", x, -7, 0, Due.MAKE, 0, 500, 1);
    Due.is("so it stays as it was", x.cached(0, 131, 0), 0);
  }
}

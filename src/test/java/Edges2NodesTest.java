/** Section 2: a log of 16 blocks, and masters among those that are joined. */
public final class Edges2NodesTest {
  public static void main(String[] args) {
    sixteenBlocks();
    for (int nodes = 2; nodes <= 4; nodes++) {
      for (int joined = 0; joined < 1 << nodes; joined++) {
        masters(nodes, joined);
      }
    }
    notJoinedUntilRecovered();
    comesFromTheDiskAsItIs();
    changedToWhatItWas();
    Due.end();
  }

  /** "a LOG, blocks that it changed and hasn't begun to write (at most 16)". */
  private static void sixteenBlocks() {
    ClusterShelf x = new ClusterShelf(2);
    Due.go(x, 0, Due.MAKE, 0, 5, 1);
    int[] logged = {5, 6, 7, 8, 9, 10, 11, 12, 14, 15, 16};
    for (int place = 0; place < logged.length; place++) {
      Due.is("at once", Due.begin(x, 0, Due.WRITE, 1, 16 * place, place), 1);
      Due.is("log", x.node(0, 2), logged[place]);
      Due.is("no flush", x.node(0, 4), 0);
    }
    Due.is("the 17th waits", Due.begin(x, 0, Due.WRITE, 1, 16 * 11, 11), 0);
    Due.is("all 16 are in a flush", x.node(0, 3), 35);
    Due.is("the log is empty", x.node(0, 2), 0);
  }

  /** "the first node that is joined of r % n, r % n + 1, .. (0 behind n - 1)". */
  private static void masters(int nodes, int joined) {
    ClusterShelf x = new ClusterShelf(nodes);
    int down = -1;
    for (int node = 0; node < nodes; node++) {
      if ((joined >> node & 1) == 0) {
        x.crash(node, 0);
        down = node;
      }
    }
    if (down >= 0) {
      x.recover(down);
    }
    for (int r = 0; r < 136; r++) {
      int master = r % nodes;
      for (int i = 0; i < nodes && (joined >> master & 1) == 0; i++) {
        master = master == nodes - 1 ? 0 : master + 1;
      }
      int due = joined == 0 ? ClusterShelf.NONE : master;
      Due.is(nodes + " nodes, joined " + joined + ", master of " + r, x.row(r, 0), due);
    }
    for (int node = 0; node < nodes; node++) {
      if ((joined >> node & 1) == 1) {
        // Of the resources 124 .. 127 every node is a master, and takes requests as one.
        for (int r = 124; r < 128; r++) {
          Due.fault("nothing", x, -5, node, Due.STAT, r, 0);
          Due.is("given", x.lock(node, r, 4), 1);
        }
      }
    }
  }

  /** One that is down is a master as long as it is joined. */
  private static void notJoinedUntilRecovered() {
    ClusterShelf x = new ClusterShelf(3);
    x.crash(2, 0);
    Due.is("master", x.row(2, 0), 2);
    Due.begin(x, 0, Due.STAT, 2, 0);
    Due.is("what goes to it is gone", x.about(1), 0);
    x.recover(2);
    Due.is("0 behind 2", x.row(2, 0), 0);
    Due.is("not of others", x.row(1, 0), 1);
    x.start(2);
    Due.is("master again", x.row(2, 0), 2);
  }

  /** "A block that a node needs is in its cache, or comes there from the disk". */
  private static void comesFromTheDiskAsItIs() {
    ClusterShelf x = new ClusterShelf(2);
    Due.go(x, 0, Due.STAT, 1, 0);
    Due.is("it has the inode", x.cached(0, 130, 0), 0);
    Due.is("and nothing else", x.node(0, 5), 1);
    Due.go(x, 1, Due.MAKE, 0, 5, 1);
    Due.is("it left the cache", x.node(0, 5), 0);
    Due.is("not on the disk yet", x.word(130, 0), 0);
    Due.done("it comes again", x, 1, 0, Due.STAT, 1, 0);
    Due.is("as the disk has it now", x.cached(0, 130, 0), 1);
  }

  /** "a block is CHANGED when a word of it is set, also to what it was". */
  private static void changedToWhatItWas() {
    ClusterShelf x = new ClusterShelf(2);
    Due.go(x, 0, Due.MAKE, 0, 5, 1);
    Due.go(x, 0, Due.WRITE, 1, 3, 9);
    Due.go(x, 0, Due.SYNC);
    Due.is("log", x.node(0, 2), 0);
    Due.done("the same word", x, 9, 0, Due.WRITE, 1, 3, 9);
    Due.is("its block is changed", x.node(0, 2), 1);
    Due.is("and isn't safe", x.history(x.about(4) - 1, 9), 1);
    Due.go(x, 0, Due.SYNC);
    Due.done("nothing more", x, 9, 0, Due.ADD, 1, 3, 0);
    Due.is("its block is changed", x.node(0, 2), 1);
    Due.go(x, 0, Due.SYNC);
    Due.done("0 at an end", x, 0, 0, Due.WRITE, 1, 4, 0);
    Due.is("its block and the size", x.node(0, 2), 2);
    Due.go(x, 0, Due.SYNC);
    Due.done("the same size", x, 5, 0, Due.CUT, 1, 5);
    Due.is("the size, and the words behind it", x.node(0, 2), 2);
    Due.go(x, 0, Due.SYNC);
    Due.done("its own name", x, 0, 0, Due.RENAME, 0, 5, 0, 5);
    Due.is("nothing is set", x.node(0, 2), 0);
  }
}

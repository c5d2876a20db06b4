/**
 * Section 3: "of the first group with a free one, from d's own group on (0 behind 7) .. the least one
 * there", for inodes and for blocks.
 */
public final class Edges3GroupsTest {
  /** A directory in group 7, and two files there. */
  private static final int LAST = 112;

  public static void main(String[] args) {
    inodes();
    blocks();
    Due.end();
  }

  /** Inodes 1 .. 127 with these names in the root; 112 and 64 are directories. */
  private static ClusterShelf all() {
    ClusterShelf x = new ClusterShelf(2);
    for (int k = 1; k < 128; k++) {
      Due.go(x, 0, Due.MAKE, 0, k, k == LAST || k == 64 ? 2 : 1);
    }
    Due.is("the last inode", x.result(0, 1), 127);
    return x;
  }

  private static void make(String what, ClusterShelf x, int want, int d, int name, int... maps) {
    Due.done(what, x, want, 0, Due.MAKE, d, name, 1);
    // The directory, the new inode, and the maps up to the one that has it.
    Due.is(what + ": maps that are met", x.result(0, 4) - 2, maps.length);
  }

  private static void inodes() {
    ClusterShelf x = all();
    Due.fault("none", x, -7, 0, Due.MAKE, LAST, 500, 1);
    for (int k : new int[] {111, 100, 126, 113, 20, 17, 15, 70}) {
      Due.done("one goes", x, 0, 0, Due.REMOVE, 0, k);
    }
    make("its own group, the least one", x, 113, LAST, 501, 7);
    make("its own group again", x, 126, LAST, 502, 7);
    make("0 behind 7", x, 15, LAST, 503, 7, 0);
    make("then 1", x, 17, LAST, 504, 7, 0, 1);
    make("of group 4", x, 70, 64, 505, 4);
    make("behind it, group 6", x, 100, 64, 506, 4, 5, 6);
    make("the last one of it", x, 111, 64, 507, 4, 5, 6);
    make("around to group 1", x, 20, 64, 508, 4, 5, 6, 7, 0, 1);
    Due.fault("none again", x, -7, 0, Due.MAKE, 64, 509, 1);
    Due.done("of group 5", x, 0, 0, Due.REMOVE, 0, 95);
    make("around to the group ahead of its own", x, 95, LAST, 510, 7, 0, 1, 2, 3, 4, 5);
    Due.done("of group 6", x, 0, 0, Due.REMOVE, 0, 96);
    make("the farthest one", x, 96, LAST, 511, 7, 0, 1, 2, 3, 4, 5, 6);
    Due.go(x, 0, Due.SYNC);
    Due.is("about(9)", x.about(9), 0);
  }

  private static void writes(ClusterShelf x, int k, int places) {
    for (int place = 0; place < places; place++) {
      Due.go(x, 0, Due.WRITE, k, 16 * place, k);
    }
  }

  private static void blocks() {
    ClusterShelf x = all();
    // 127 entries: 16 blocks and an index of group 0.
    Due.is("of group 0", x.cached(0, 128, 1), (1 << 17) - 1);
    Due.done("room for an entry", x, 0, 0, Due.REMOVE, 0, 127);
    Due.done("an entry", x, 127, 0, Due.MAKE, LAST, 500, 1);
    Due.is("the directory's block is of group 7", x.cached(0, Due.inodeBlock(LAST), 3), 593);
    writes(x, 113, 24);
    writes(x, 114, 20);
    Due.is("map of group 7", x.cached(0, 576, 1), -1);
    Due.is("map of group 7", x.cached(0, 576, 2), 32767);
    int index = x.cached(0, Due.inodeBlock(114), 11);
    Due.is("the last one of group 7", x.cached(0, index, 11), 639);
    Due.done("0 behind 7", x, 9, 0, Due.WRITE, 114, 16 * 20, 9);
    Due.is("the file and two maps", x.result(0, 4), 3);
    Due.is("the least one there", x.cached(0, index, 12), 128 + 17 + 17);
    Due.is("map of group 0", x.cached(0, 128, 1), (1 << 18) - 1);
    Due.is("map of group 1 isn't needed", Due.isCached(x, 0, 192) ? x.cached(0, 192, 1) : 0, 0);

    // Index and block of one try may be of two groups.
    Due.done("one of group 7 goes", x, 369, 0, Due.CUT, 113, 368);
    Due.done("index and block", x, 5, 0, Due.WRITE, 115, 128, 5);
    // The directory's block, 8 blocks, an index and 15 more are ahead of it.
    Due.is("the index is of group 7", x.cached(0, Due.inodeBlock(115), 11), 593 + 25);
    Due.is("the block is of group 0", x.cached(0, 593 + 25, 0), 128 + 17 + 18);
    Due.is("the file and two maps", x.result(0, 4), 3);

    // An inode's own group counts, not its directory's.
    Due.done("a file of group 1", x, 3, 0, Due.WRITE, 16, 0, 3);
    Due.is("its block", x.cached(0, Due.inodeBlock(16), 3), 192 + 17);
    Due.is("its map alone", x.result(0, 4), 2);
    // What is given back is of the block's group, not of the inode's.
    Due.done("cut", x, 321, 0, Due.CUT, 114, 320);
    Due.is("the file and the map of group 0", x.result(0, 4), 2);
    Due.is("it is free", x.cached(0, 128, 1) >> 17 & 1, 0);
    Due.go(x, 0, Due.SYNC);
    Due.is("about(9)", x.about(9), 0);
  }
}

/** Promises 15 and 16: a node, and the whole. */
public final class P15to16NodeAboutTest {
  private static final int NONE = ClusterShelf.NONE;

  public static void main(String[] args) {
    wrongOnes();
    node();
    about();
    Due.end();
  }

  private static void wrongOnes() {
    ClusterShelf x = new ClusterShelf(3);
    for (int bad : new int[] {-1, 3, Integer.MIN_VALUE, Integer.MAX_VALUE}) {
      Due.iae("node " + bad, () -> x.node(bad, 0));
    }
    for (int bad : new int[] {-1, 7, Integer.MIN_VALUE, Integer.MAX_VALUE}) {
      Due.iae("what " + bad, () -> x.node(0, bad));
    }
    for (int bad : new int[] {-1, 10, Integer.MIN_VALUE, Integer.MAX_VALUE}) {
      Due.iae("about " + bad, () -> x.about(bad));
    }
  }

  private static void is(String what, ClusterShelf x, int node, int... due) {
    for (int i = 0; i < 7; i++) {
      Due.is(what + ": node(" + node + ", " + i + ")", x.node(node, i), due[i]);
    }
  }

  private static void node() {
    ClusterShelf x = new ClusterShelf(3);
    Due.done("make", x, 1, 1, Due.MAKE, 0, 5, 1);
    is("made", x, 1, 1, 1, 4, 0, 0, 4, NONE);
    Due.begin(x, 1, Due.SYNC);
    is("a flush", x, 1, 1, 1, 0, 11, 1, 4, 27);
    x.tick(4);
    is("images are written", x, 1, 1, 1, 0, 7, 1, 4, 26);
    x.tick(1);
    is("the table is", x, 1, 1, 1, 0, 6, 1, 4, 25);
    x.tick(1);
    is("the head is", x, 1, 1, 1, 0, 5, 1, 4, 128);
    x.tick(4);
    is("the blocks are", x, 1, 1, 1, 0, 1, 1, 4, 25);
    x.tick(1);
    is("all is", x, 1, 1, 1, 0, 0, 1, 4, NONE);
    Due.done("write", x, 6, 1, Due.WRITE, 1, 130, 6);
    is("inode, map, index, block", x, 1, 1, 1, 4, 0, 1, 6, NONE);
    x.crash(1, 0);
    is("down", x, 1, 0, 1, 0, 0, 0, 0, NONE);
    x.recover(1);
    is("not joined", x, 1, 0, 0, 0, 0, 0, 0, NONE);
    x.start(1);
    is("up", x, 1, 1, 1, 0, 0, 0, 0, NONE);
    is("another one", x, 0, 1, 1, 0, 0, 0, 0, NONE);
  }

  private static void seen(String what, ClusterShelf x, int... due) {
    for (int i = 0; i < 10; i++) {
      Due.is(what + ": about(" + i + ")", x.about(i), due[i]);
    }
  }

  private static void about() {
    ClusterShelf x = new ClusterShelf(2);
    seen("new", x, 0, 0, 0, 0, 0, 0, 2, 0, 1, 0);
    Due.begin(x, 0, Due.MAKE, 0, 5, 1);
    seen("begun", x, 0, 1, 1, 0, 0, 0, 2, 0, 1, 0);
    x.tick(6);
    seen("made", x, 6, 0, 6, 0, 1, 0, 2, 0, 1, 0);
    Due.begin(x, 0, Due.SYNC);
    x.tick(6);
    seen("the head is written", x, 12, 0, 6, 6, 1, 0, 2, 0, 1, 0);
    x.tick(1);
    seen("the map is written", x, 13, 0, 6, 7, 1, 0, 2, 1, 2, 0);
    Due.begin(x, 1, Due.STAT, 0, 0);
    seen("a request", x, 13, 1, 7, 7, 1, 0, 2, 1, 2, 0);
    x.crash(0, 5);
    seen("crashed", x, 13, 0, 7, 7, 1, 1, 2, 1, 2, 0);
    x.recover(0);
    seen("recovered, and asked anew", x, 13, 1, 8, 7, 1, 1, 2, 1, 2, 0);
    x.tick(2);
    seen("granted", x, 15, 0, 8, 7, 2, 1, 2, 1, 2, 0);
    Due.done("write", x, 4, 1, Due.WRITE, 1, 300, 4);
    Due.done("sync", x, 0, 1, Due.SYNC);
    Due.is("blocks", x.about(7), 3);
    Due.is("inodes", x.about(8), 2);
    x.crash(1, 0);
    Due.is("no call was lost", x.about(5), 1);
    Due.is("nodes, also down ones", x.about(6), 2);
  }
}

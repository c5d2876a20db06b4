/** Promise 1: so many nodes (2 if it is less, 4 if it is more); time 0; the disk of section 1. */
public final class P01NewObjectTest {
  public static void main(String[] args) {
    int[][] asked = {
      {2, 2}, {3, 3}, {4, 4}, {1, 2}, {0, 2}, {-1, 2}, {Integer.MIN_VALUE, 2}, {5, 4},
      {Integer.MAX_VALUE, 4}
    };
    for (int[] pair : asked) {
      ClusterShelf x = new ClusterShelf(pair[0]);
      Due.is("nodes of " + pair[0], x.about(6), pair[1]);
      Due.is("word(0, 1) of " + pair[0], x.word(0, 1), pair[1]);
      Due.is("time", x.about(0), 0);
    }
    disk();
    nodes();
    Due.end();
  }

  private static void disk() {
    ClusterShelf x = new ClusterShelf(3);
    for (int block = 0; block < 640; block++) {
      for (int i = 0; i < 16; i++) {
        int want = 0;
        if (block == 0) {
          want = i == 0 ? 7177 : i == 1 ? 3 : 0;
        } else if (block == 128) {
          want = i == 0 ? 1 : 0;
        } else if (block == 129) {
          want = i == 0 ? 2 : i == 1 ? 1 : 0;
        }
        Due.is("word(" + block + ", " + i + ")", x.word(block, i), want);
      }
    }
    int[] about = {0, 0, 0, 0, 0, 0, 3, 0, 1, 0};
    for (int what = 0; what < 10; what++) {
      Due.is("about(" + what + ")", x.about(what), about[what]);
    }
  }

  private static void nodes() {
    ClusterShelf x = new ClusterShelf(4);
    int[] due = {1, 1, 0, 0, 0, 0, -1};
    for (int node = 0; node < 4; node++) {
      for (int what = 0; what < 7; what++) {
        Due.is("node(" + node + ", " + what + ")", x.node(node, what), due[what]);
      }
      for (int what = 0; what < 5; what++) {
        Due.is("result", x.result(node, what), 0);
        for (int r = 0; r < 136; r++) {
          Due.is("lock", x.lock(node, r, what), what == 2 ? ClusterShelf.NONE : 0);
        }
      }
    }
    for (int r = 0; r < 136; r++) {
      Due.is("master of " + r, x.row(r, 0), r % 4);
      Due.is("row of " + r, x.row(r, 1), 0);
      Due.is("first of row of " + r, x.row(r, 2), ClusterShelf.NONE);
    }
    Due.is("NONE", ClusterShelf.NONE, -1);
  }
}

/** Promise 4: so many ticks, how many calls ended in them. */
public final class P04TickTest {
  public static void main(String[] args) {
    ClusterShelf x = new ClusterShelf(2);
    for (int bad : new int[] {-1, 101, Integer.MIN_VALUE, Integer.MAX_VALUE}) {
      Due.iae("tick(" + bad + ")", () -> x.tick(bad));
    }
    Due.is("time", x.about(0), 0);
    Due.is("none", x.tick(0), 0);
    Due.is("time", x.about(0), 0);
    Due.is("a hundred", x.tick(100), 0);
    Due.is("time", x.about(0), 100);
    ended();
    writesInOrder();
    messagesAheadOfWrites();
    Due.end();
  }

  private static void ended() {
    ClusterShelf x = new ClusterShelf(3);
    Due.begin(x, 0, Due.COUNT, 0);
    Due.begin(x, 1, Due.LOOK, 0, 5);
    Due.begin(x, 2, Due.STAT, 9, 0);
    Due.is("none in the first tick", x.tick(1), 0);
    Due.is("all three, with faults", x.tick(1), 3);
    Due.is("none", x.tick(5), 0);
    Due.is("ended", x.about(4), 3);
  }

  /** One write a tick: images, table, head, the blocks, head. */
  private static void writesInOrder() {
    ClusterShelf x = new ClusterShelf(2);
    Due.done("make", x, 1, 0, Due.MAKE, 0, 5, 1);
    Due.begin(x, 0, Due.SYNC);
    int[] places = {3, 4, 5, 6, 2, 1, 128, 129, 130, 145, 1};
    int writes = x.about(3);
    for (int i = 0; i < places.length; i++) {
      Due.is("place of write " + i, x.node(0, 6), places[i]);
      Due.is("left", x.node(0, 3), places.length - i);
      Due.is("ended", x.tick(1), i == places.length - 1 ? 1 : 0);
      Due.is("writes", x.about(3), writes + i + 1);
      if (i == 4) {
        int[] table = {128, 129, 130, 145};
        for (int w = 0; w < 16; w++) {
          Due.is("table", x.word(2, w), w < 4 ? table[w] : 0);
        }
        Due.is("image of the map", x.word(3, 0), 3);
        Due.is("the map itself", x.word(128, 0), 1);
      }
      if (i == 5) {
        head(x, 1, 4, 1);
      }
    }
    head(x, 1, 4, 0);
    Due.is("the map itself", x.word(128, 0), 3);
    Due.is("none is left", x.node(0, 6), ClusterShelf.NONE);
    Due.done("write", x, 1, 0, Due.WRITE, 1, 0, 1);
    Due.begin(x, 0, Due.SYNC);
    x.tick(5);
    Due.is("what is behind them in the table is 0", x.word(2, 3), 0);
    head(x, 2, 3, 1);
    Due.is("images of before stay", x.word(6, 0), 5);
    for (int block = 7; block < 25; block++) {
      for (int w = 0; w < 16; w++) {
        Due.is("unused images", x.word(block, w), 0);
      }
    }
  }

  private static void head(ClusterShelf x, int number, int blocks, int counts) {
    int[] due = {number, blocks, counts};
    for (int w = 0; w < 16; w++) {
      Due.is("head " + w, x.word(1, w), w < 3 ? due[w] : 0);
    }
  }

  private static void messagesAheadOfWrites() {
    ClusterShelf x = new ClusterShelf(2);
    Due.done("make", x, 1, 0, Due.MAKE, 0, 5, 1);
    Due.begin(x, 1, Due.COUNT, 0);
    x.tick(1);
    Due.is("no flush", x.node(0, 3), 0);
    x.tick(1);
    Due.is("the call back came, and one of 11 is written", x.node(0, 3), 10);
    Due.is("image", x.word(3, 0), 3);
  }
}

/** Promise 7: a node starts again. */
public final class P07StartTest {
  public static void main(String[] args) {
    wrongOnes();
    startsEmpty();
    callsGoOn();
    nothingIsPinned();
    Due.end();
  }

  private static void wrongOnes() {
    ClusterShelf x = new ClusterShelf(3);
    for (int bad : new int[] {-1, 3, Integer.MIN_VALUE, Integer.MAX_VALUE}) {
      Due.iae("node " + bad, () -> x.start(bad));
    }
    Due.ise("it is up", () -> x.start(0));
    x.crash(0, 0);
    Due.ise("it is joined", () -> x.start(0));
    x.recover(0);
    x.crash(1, 0);
    Due.ise("another one is down and joined", () -> x.start(0));
    Due.is("it stays down", x.node(0, 0), 0);
    x.recover(1);
    x.start(0);
    Due.is("up", x.node(0, 0), 1);
    Due.is("joined", x.node(0, 1), 1);
    Due.is("the other one stays down", x.node(1, 0), 0);
    Due.ise("it is up", () -> x.start(0));
    x.start(1);
    Due.is("up", x.node(1, 0) + x.node(1, 1), 2);
  }

  /** What was called back is so no more, so a call that waited for that goes on. */
  private static void callsGoOn() {
    ClusterShelf x = new ClusterShelf(3);
    x.crash(2, 0);
    x.recover(2);
    Due.done("make", x, 1, 0, Due.MAKE, 0, 5, 1);
    Due.begin(x, 1, Due.LOOK, 0, 5);
    x.tick(2);
    Due.is("called back", x.lock(0, 0, 2), 1);
    Due.is("a call waits", Due.begin(x, 0, Due.COUNT, 0), 0);
    x.start(2);
    Due.is("it went on", x.result(0, 0), 2);
    Due.is("with", x.result(0, 1), 1);
    Due.is("the other one is called for anew", x.message(0, 2), 2);
    Due.is("the row", x.row(0, 1), 1);
    x.tick(14);
    Due.is("it ends", x.result(1, 1), 1);
  }

  /** What the lost call had pinned is not pinned when the node starts again. */
  private static void nothingIsPinned() {
    ClusterShelf x = new ClusterShelf(2);
    Due.begin(x, 0, Due.MAKE, 0, 5, 1);
    x.tick(3);
    x.crash(0, 0);
    x.recover(0);
    x.start(0);
    Due.begin(x, 0, Due.COUNT, 0);
    Due.is("tries", x.result(0, 3), 1);
    Due.is("it asks", x.lock(0, 0, 1), 1);
    Due.is("it ends", x.tick(2), 1);
    Due.is("tries", x.result(0, 3), 2);
  }

  private static void startsEmpty() {
    ClusterShelf x = new ClusterShelf(2);
    Due.done("make", x, 1, 0, Due.MAKE, 0, 5, 1);
    Due.done("sync", x, 0, 0, Due.SYNC);
    Due.done("count", x, 1, 1, Due.COUNT, 0);
    Due.is("flushes", x.node(0, 4), 1);
    x.crash(0, 0);
    x.recover(0);
    Due.is("node 1 is the master of all", x.row(0, 0), 1);
    Due.begin(x, 1, Due.STAT, 1, 2);
    x.start(0);
    Due.is("master again", x.row(0, 0), 0);
    Due.is("given anew", x.lock(1, 0, 4), 1);
    for (int r = 0; r < 136; r++) {
      Due.is("holds nothing", x.lock(0, r, 0) + x.lock(0, r, 4), 0);
    }
    Due.is("the request was laid anew, and granted", x.message(0, 2), 1);
    Due.is("one message", x.about(1), 1);
    Due.is("it ends", x.tick(1), 1);
    Due.is("flushes since it is up", x.node(0, 4), 0);
    Due.is("cache", x.node(0, 5), 0);
    Due.is("the latest result stays", x.result(0, 0), 2);
    Due.done("write", x, 3, 0, Due.WRITE, 1, 0, 3);
    Due.done("sync", x, 0, 0, Due.SYNC);
    Due.is("counted anew", x.word(1, 0), 1);
    Due.done("read", x, 3, 1, Due.READ, 1, 0);
    Due.is("about(9)", x.about(9), 0);
  }
}

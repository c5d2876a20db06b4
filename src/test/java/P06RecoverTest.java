/** Promise 6: recovery of all nodes that are down and joined; the locks are laid anew. */
public final class P06RecoverTest {
  public static void main(String[] args) {
    wrongOnes();
    allAtOnce();
    noneIsUp();
    locksAnew();
    calledBackNoMore();
    Due.end();
  }

  private static void wrongOnes() {
    ClusterShelf x = new ClusterShelf(2);
    for (int bad : new int[] {-1, 2, Integer.MIN_VALUE, Integer.MAX_VALUE}) {
      Due.iae("node " + bad, () -> x.recover(bad));
    }
    Due.ise("it is up", () -> x.recover(0));
    x.crash(0, 0);
    Due.ise("the other one is up", () -> x.recover(1));
    Due.is("nothing is to do", x.recover(0), 0);
    Due.is("joined no more", x.node(0, 1), 0);
    Due.is("down", x.node(0, 0), 0);
    Due.ise("it is not joined", () -> x.recover(0));
  }

  /** Node 0 has a file and node 1 has written it, both with a head that counts. */
  private static ClusterShelf twoJournals() {
    ClusterShelf x = new ClusterShelf(3);
    Due.done("a directory", x, 1, 0, Due.MAKE, 0, 5, 2);
    Due.done("a file", x, 2, 0, Due.MAKE, 1, 6, 1);
    Due.done("sync", x, 0, 0, Due.SYNC);
    Due.done("write", x, 77, 1, Due.WRITE, 2, 0, 77);
    Due.done("link", x, 2, 0, Due.LINK, 0, 8, 2);
    Due.rest(x);
    Due.done("write", x, 78, 1, Due.WRITE, 2, 1, 78);
    Due.done("remove", x, 0, 0, Due.RENAME, 0, 8, 0, 9);
    Due.begin(x, 1, Due.SYNC);
    Due.begin(x, 0, Due.SYNC);
    return x;
  }

  private static void allAtOnce() {
    ClusterShelf x = twoJournals();
    int first = x.node(0, 3);
    int second = x.node(1, 3);
    Due.is("one block of node 0", first, 5);
    Due.is("inode and block of node 1", second, 7);
    x.tick(4);
    Due.is("head of node 0", x.word(1, 2), 1);
    Due.is("head of node 1", x.word(25, 2), 1);
    x.crash(1, 0);
    x.crash(0, 0);
    int writes = x.about(3);
    Due.is("looked at as a whole", x.about(9), 0);
    Due.is("images of both", x.recover(1), 3);
    Due.is("no writes", x.about(3), writes);
    Due.is("heads", x.word(1, 2) + x.word(25, 2), 0);
    Due.is("the head's other words stay", x.word(25, 1), 2);
    Due.is("joined", x.node(0, 1) + x.node(1, 1), 0);
    Due.is("all masters are node 2", x.row(0, 0) + x.row(1, 0) + x.row(2, 0), 6);
    Due.done("written", x, 78, 2, Due.READ, 2, 1);
    Due.done("renamed", x, 2, 2, Due.LOOK, 0, 9);
    Due.is("about(9)", x.about(9), 0);
    Due.ise("recovered already", () -> x.recover(0));
  }

  private static void noneIsUp() {
    ClusterShelf x = new ClusterShelf(2);
    x.crash(0, 0);
    x.crash(1, 0);
    x.tick(3);
    Due.is("recover", x.recover(1), 0);
    Due.is("no master", x.row(5, 0), ClusterShelf.NONE);
    Due.is("no row", x.row(5, 1), 0);
    Due.is("nothing in it", x.row(5, 2), ClusterShelf.NONE);
    Due.is("given by none", x.lock(0, 5, 4), 0);
    x.tick(3);
    x.start(1);
    Due.done("count", x, 0, 1, Due.COUNT, 0);
  }

  private static void locksAnew() {
    ClusterShelf x = new ClusterShelf(3);
    Due.done("make", x, 1, 1, Due.MAKE, 0, 5, 1);
    Due.is("given by node 0", x.lock(1, 0, 4), 2);
    x.crash(0, 0);
    Due.is("not known", x.lock(1, 0, 4), 0);
    Due.is("held", x.lock(1, 0, 0), 2);
    Due.is("its master still", x.row(0, 0), 0);
    int sent = x.about(2);
    Due.begin(x, 2, Due.LOOK, 0, 5);
    Due.is("sent", x.about(2), sent + 1);
    Due.is("gone at once", x.about(1), 0);
    Due.is("asked", x.lock(2, 0, 1), 1);
    x.tick(5);
    Due.is("it waits", x.result(2, 0), 1);
    x.recover(0);
    Due.is("the next one is master", x.row(0, 0), 1);
    Due.is("and of its own", x.row(1, 0), 1);
    Due.is("and node 2", x.row(2, 0), 2);
    Due.is("given anew", x.lock(1, 0, 4), 2);
    Due.is("of the row", x.row(0, 1), 1);
    Due.is("the asking one", x.row(0, 2), 2);
    Due.is("its mode", x.row(0, 3), 1);
    Due.is("a call back goes", x.message(0, 2), 2);
    Due.is("from node 1", x.message(0, 0), 1);
    Due.is("to node 1", x.message(0, 1), 1);
    for (int t = 0; t < 40; t++) {
      x.tick(1);
    }
    Due.is("it comes", x.result(2, 1), 1);
  }

  /** What was called back is so no more; a flush goes on. */
  private static void calledBackNoMore() {
    ClusterShelf x = new ClusterShelf(4);
    Due.done("make", x, 1, 0, Due.MAKE, 0, 5, 1);
    Due.begin(x, 2, Due.LOOK, 0, 5);
    x.tick(3);
    Due.is("called back", x.lock(0, 0, 2), 1);
    Due.is("a flush", x.node(0, 3), 9);
    Due.is("a call of node 0 waits", Due.begin(x, 0, Due.COUNT, 0), 0);
    x.crash(2, 0);
    x.crash(3, 0);
    x.recover(3);
    Due.is("called back no more", x.lock(0, 0, 2), ClusterShelf.NONE);
    Due.is("the flush goes on", x.node(0, 3), 9);
    Due.is("held", x.lock(0, 0, 0), 2);
    Due.is("nobody asks", x.row(0, 1), 0);
    Due.is("the call went on", x.result(0, 0), 2);
    x.tick(9);
    Due.is("written", x.word(1, 2), 0);
    Due.is("held still", x.lock(0, 0, 0), 2);
    Due.is("head", x.word(1, 1), 4);

    // A flush is over, the log is not empty, and the call waits, but not for the log.
    ClusterShelf y = new ClusterShelf(4);
    Due.done("make", y, 1, 0, Due.MAKE, 0, 5, 1);
    Due.begin(y, 2, Due.LOOK, 0, 5);
    y.tick(3);
    y.crash(2, 0);
    y.recover(2);
    Due.is("write", Due.begin(y, 0, Due.WRITE, 1, 0, 3), 1);
    y.delay(0, 3, 20);
    Due.begin(y, 0, Due.STAT, 3, 0);
    y.tick(9);
    Due.is("no other flush", y.node(0, 4), 1);
    Due.is("none is under way", y.node(0, 3), 0);
    Due.is("log", y.node(0, 2), 3);

    // A call that waits for the log waits until all of it is written.
    ClusterShelf z = new ClusterShelf(4);
    Due.done("make", z, 1, 0, Due.MAKE, 0, 5, 1);
    Due.begin(z, 2, Due.LOOK, 0, 5);
    z.tick(3);
    z.crash(2, 0);
    z.recover(2);
    for (int place = 0; place < 13; place++) {
      Due.is("write", Due.begin(z, 0, Due.WRITE, 1, 16 * place, 3), 1);
    }
    Due.is("log is full", z.node(0, 2), 16);
    Due.is("one more waits", Due.begin(z, 0, Due.WRITE, 1, 16 * 13, 3), 0);
    Due.is("it waits still", z.tick(9), 0);
    Due.is("the next flush", z.node(0, 3), 35);
    Due.is("it was not tried again", z.result(0, 3), 3);
    Due.is("it ends", z.tick(35), 1);
    Due.is("tries", z.result(0, 3), 4);
  }
}

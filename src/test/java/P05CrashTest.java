/** Promise 5: a crash, with torn words, and what is gone with it. */
public final class P05CrashTest {
  private static final int NONE = ClusterShelf.NONE;
  /** Images of 128, 129, 130, 145, 146, table, head, these blocks, head. */
  private static final int WRITES = 13;

  public static void main(String[] args) {
    wrongOnes();
    for (int done = 0; done < WRITES; done++) {
      for (int torn = 0; torn < 16; torn++) {
        everywhere(done, torn);
      }
    }
    whatIsGone();
    whatOthersKeep();
    Due.end();
  }

  private static void wrongOnes() {
    ClusterShelf x = new ClusterShelf(2);
    for (int bad : new int[] {-1, 2, Integer.MIN_VALUE, Integer.MAX_VALUE}) {
      Due.iae("node " + bad, () -> x.crash(bad, 0));
    }
    for (int bad : new int[] {-1, 16, Integer.MIN_VALUE, Integer.MAX_VALUE}) {
      Due.iae("torn " + bad, () -> x.crash(0, bad));
    }
    Due.is("it is up", x.node(0, 0), 1);
    x.crash(0, 15);
    Due.ise("it is down", () -> x.crash(0, 0));
    Due.iae("torn ahead of down", () -> x.crash(0, 16));
  }

  private static ClusterShelf syncing() {
    ClusterShelf x = new ClusterShelf(2);
    Due.done("make", x, 1, 0, Due.MAKE, 0, 5, 1);
    Due.done("write", x, 9, 0, Due.WRITE, 1, 3, 9);
    Due.begin(x, 0, Due.SYNC);
    Due.is("writes", x.node(0, 3), WRITES);
    return x;
  }

  private static void everywhere(int done, int torn) {
    String what = "crash after " + done + " writes, torn " + torn;
    ClusterShelf x = syncing();
    x.tick(done);
    int block = x.node(0, 6);
    int writes = x.about(3);
    int[] before = blockOf(x, block);
    ClusterShelf whole = syncing();
    whole.tick(done + 1);
    int[] after = blockOf(whole, block);
    x.crash(0, torn);
    for (int w = 0; w < 16; w++) {
      Due.is(what + " word " + w, x.word(block, w), w < torn ? after[w] : before[w]);
    }
    Due.is(what + " is no write", x.about(3), writes);
    boolean safe = done > 6 || done == 6 && torn >= 3;
    boolean isOver = done == WRITES - 1 && torn >= 3;
    Due.is(what + ": make", x.history(0, 9), safe ? 2 : 3);
    Due.is(what + ": write", x.history(1, 9), safe ? 2 : 3);
    Due.is(what + ": the sync is lost", x.result(0, 0), 4);
    Due.is(what + ": about(9)", x.about(9), 0);
    Due.is(what + ": images", x.recover(0), safe && !isOver ? 5 : 0);
    Due.is(what + ": head", x.word(1, 2), 0);
    Due.is(what + ": about(9)", x.about(9), 0);
    if (safe) {
      Due.done(what, x, 9, 1, Due.READ, 1, 3);
    } else {
      Due.fault(what, x, -4, 1, Due.READ, 1, 3);
    }
  }

  private static int[] blockOf(ClusterShelf x, int block) {
    int[] words = new int[16];
    for (int w = 0; w < 16; w++) {
      words[w] = x.word(block, w);
    }
    return words;
  }

  private static void whatIsGone() {
    ClusterShelf x = new ClusterShelf(2);
    Due.done("make", x, 1, 0, Due.MAKE, 0, 5, 1);
    Due.begin(x, 0, Due.STAT, 3, 0);
    Due.begin(x, 1, Due.STAT, 2, 0);
    int time = x.about(0);
    Due.is("two messages", x.about(1), 2);
    int sent = x.about(2);
    x.tick(1);
    x.crash(0, 0);
    Due.is("none is left", x.about(1), 0);
    Due.is("sent", x.about(2), sent + 2);
    int[] node = {0, 1, 0, 0, 0, 0, NONE};
    for (int what = 0; what < 7; what++) {
      Due.is("node " + what, x.node(0, what), node[what]);
    }
    int[] result = {4, 0, 1, 1, 1};
    for (int what = 0; what < 5; what++) {
      Due.is("result " + what, x.result(0, what), result[what]);
    }
    for (int r = 0; r < 136; r++) {
      for (int what = 0; what < 4; what++) {
        Due.is("lock", x.lock(0, r, what), what == 2 ? NONE : 0);
      }
    }
    Due.nsee("its cache", () -> x.cached(0, 129, 0));
    Due.is("lost", x.about(5), 1);
    Due.is("ended", x.about(4), 1);
    Due.is("the other one waits", x.result(1, 0), 1);
    Due.is("what it asked the crashed one for is gone", x.row(2, 1), 0);
    x.tick(9);
    Due.is("up to the crash", x.result(0, 2), 1);
    Due.is("it waits longer", x.result(1, 2), x.about(0) - time);
    Due.is("nothing comes", x.result(1, 0), 1);
    Due.is("an earlier result stays", x.history(0, 6), 2);
  }

  /** An up master still has what it gave to a node that is down; what is sent to it is gone. */
  private static void whatOthersKeep() {
    ClusterShelf x = new ClusterShelf(2);
    Due.done("make", x, 1, 0, Due.MAKE, 0, 5, 1);
    Due.is("given by node 1", x.lock(0, 1, 4), 2);
    x.crash(0, 0);
    Due.is("given still", x.lock(0, 1, 4), 2);
    Due.is("held no more", x.lock(0, 1, 0), 0);
    Due.is("given by node 0 itself", x.lock(0, 0, 4), 0);
    Due.begin(x, 1, Due.STAT, 1, 0);
    int sent = x.about(2);
    x.tick(1);
    Due.is("a call back was sent", x.about(2), sent + 1);
    Due.is("and is gone", x.about(1), 0);
    x.tick(50);
    Due.is("it must not be given", x.result(1, 0), 1);
    Due.is("it is in the row", x.row(1, 1), 1);
    x.recover(0);
    Due.is("now it comes", x.tick(2), 1);
    Due.is("to nothing", x.result(1, 1), -5);

    ClusterShelf y = new ClusterShelf(4);
    Due.done("make", y, 1, 0, Due.MAKE, 0, 5, 1);
    Due.begin(y, 1, Due.COUNT, 0);
    y.tick(2);
    Due.is("called back", y.lock(0, 0, 2), 1);
    Due.begin(y, 3, Due.STAT, 2, 0);
    Due.begin(y, 2, Due.STAT, 3, 0);
    y.delay(1, 2, 5);
    y.crash(0, 0);
    Due.is("not called back any more", y.lock(0, 0, 2), NONE);
    Due.is("messages of others stay", y.about(1), 2);
    Due.is("first", y.message(0, 0), 3);
    Due.is("second", y.message(1, 0), 2);
    Due.is("they come", y.tick(2), 2);

    ClusterShelf z = new ClusterShelf(4);
    for (int node = 0; node < 4; node++) {
      Due.begin(z, node, Due.STAT, 4 + (node + 1) % 4, 0);
    }
    Due.is("four requests", z.about(1), 4);
    z.crash(0, 0);
    Due.is("from node 0 and to it are gone", z.about(1), 2);
    int[][] left = {{1, 2, 0, 6, 1, 1}, {2, 3, 0, 7, 1, 1}};
    for (int what = 0; what < 6; what++) {
      Due.is("first of those left", z.message(0, what), left[0][what]);
      Due.is("second of those left", z.message(1, what), left[1][what]);
    }
  }
}

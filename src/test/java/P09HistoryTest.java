/** Promise 9: the calls that ended, and what became of them. */
public final class P09HistoryTest {
  public static void main(String[] args) {
    facts();
    fates();
    firstOnes();
    notSafeByAnotherFlush();
    Due.end();
  }

  private static void facts() {
    ClusterShelf x = new ClusterShelf(2);
    Due.ioobe("none", () -> x.history(0, 0));
    Due.ioobe("below 0", () -> x.history(-1, 0));
    Due.ioobe("index ahead of what", () -> x.history(0, 10));
    x.tick(2);
    x.call(0, Due.MAKE, 0, 5, 1, 99);
    Due.ioobe("it is under way", () -> x.history(0, 0));
    x.tick(6);
    row(x, 0, 0, Due.MAKE, 0, 5, 1, 99, 2, 1, 8, 1);
    x.call(0, Due.LOOK, 0, -8, -1, Integer.MIN_VALUE);
    row(x, 1, 0, Due.LOOK, 0, -8, -1, Integer.MIN_VALUE, 3, -3, 8, 0);
    x.call(1, Due.SYNC, 1, 2, 3, 4);
    row(x, 2, 1, Due.SYNC, 1, 2, 3, 4, 2, 0, 8, 0);
    Due.ioobe("behind", () -> x.history(3, 0));
    Due.ioobe("far behind", () -> x.history(Integer.MAX_VALUE, 0));
    for (int bad : new int[] {-1, 10, Integer.MIN_VALUE, Integer.MAX_VALUE}) {
      Due.iae("what " + bad, () -> x.history(0, bad));
    }
  }

  private static void row(ClusterShelf x, int i, int... due) {
    for (int what = 0; what < 10; what++) {
      Due.is("history(" + i + ", " + what + ")", x.history(i, what), due[what]);
    }
  }

  private static void fates() {
    ClusterShelf x = new ClusterShelf(2);
    Due.done("make", x, 1, 0, Due.MAKE, 0, 5, 1);
    Due.done("cut to what it is", x, 0, 0, Due.CUT, 1, 0);
    Due.is("what it set is changed, too", x.history(1, 9), 1);
    Due.begin(x, 1, Due.COUNT, 0);
    x.tick(2);
    Due.is("a flush", x.node(0, 3), 10);
    Due.done("write, behind the flush", x, 4, 0, Due.WRITE, 1, 0, 4);
    x.tick(4);
    Due.is("ahead of the head", x.history(0, 9), 1);
    x.tick(1);
    Due.is("the head is written", x.history(0, 9), 2);
    Due.is("of this, too", x.history(1, 9), 2);
    Due.is("not of what came later", x.history(2, 9), 1);
    x.tick(5);
    Due.is("the next flush", x.node(0, 4), 2);
    Due.is("is not written yet", x.history(2, 9), 1);
    x.tick(4);
    Due.is("head is next", x.node(0, 6), 1);
    x.crash(0, 2);
    Due.is("torn ahead of the word", x.history(2, 9), 3);
    Due.is("safe stays", x.history(0, 9), 2);
    x.recover(0);
    Due.is("the other one ends", x.tick(2), 1);
    Due.done("the file is there", x, 0, 1, Due.STAT, 1, 2);
    Due.is("nothing was changed", x.history(x.about(4) - 1, 9), 0);
    Due.is("gone stays", x.history(2, 9), 3);
    Due.done("make", x, 2, 1, Due.MAKE, 0, 6, 1);
    x.start(0);
    x.crash(0, 0);
    Due.is("another node's crash", x.history(x.about(4) - 1, 9), 1);
    x.crash(1, 15);
    Due.is("gone without a flush", x.history(x.about(4) - 1, 9), 3);
  }

  private static void firstOnes() {
    ClusterShelf x = new ClusterShelf(2);
    for (int i = 0; i < 401; i++) {
      Due.is("at once", x.call(i % 2, Due.SYNC, i, 0, 0, 0), 1);
    }
    Due.is("the 400th", x.history(399, 2), 399);
    Due.is("its node", x.history(399, 0), 1);
    Due.ioobe("no more are kept", () -> x.history(400, 0));
    Due.is("all count", x.about(4), 401);
  }

  /** A flush carries its own node's calls alone, and of these the ones that its log had. */
  private static void notSafeByAnotherFlush() {
    ClusterShelf x = new ClusterShelf(3);
    for (int k = 1; k <= 3; k++) {
      Due.done("file", x, k, 0, Due.MAKE, 0, k, 1);
      Due.go(x, 0, Due.WRITE, k, 0, k);
    }
    Due.go(x, 0, Due.SYNC);
    Due.go(x, 1, Due.WRITE, 1, 0, 11);
    Due.go(x, 1, Due.WRITE, 2, 0, 12);
    Due.go(x, 2, Due.WRITE, 3, 0, 13);
    int first = x.about(4) - 3;
    Due.begin(x, 0, Due.READ, 1, 0);
    for (int t = 0; t < 20 && x.node(1, 3) == 0; t++) {
      x.tick(1);
    }
    Due.is("node 1 has a flush, one write of it is done", x.node(1, 3), 6);
    Due.is("a call that its log gets now", Due.begin(x, 1, Due.WRITE, 2, 0, 14), 1);
    Due.is("another node's flush begins", Due.begin(x, 2, Due.SYNC), 0);
    Due.is("node 2 has a flush", x.node(2, 3), 5);
    x.tick(3);
    Due.is("node 1's HEAD is written", x.node(1, 3), 3);
    int[] due = {2, 2, 2, 1};
    for (int i = 0; i < due.length; i++) {
      Due.is("call " + i, x.history(first + i, 9), due[i]);
    }
    x.crash(1, 0);
    Due.is("and is gone", x.history(first + 3, 9), 3);
    Due.is("not what was safe", x.history(first, 9), 2);
  }
}

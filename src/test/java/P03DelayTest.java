/** Promise 3: how long messages take, and that they keep their order between two nodes. */
public final class P03DelayTest {
  public static void main(String[] args) {
    wrongOnes();
    takesSoLong();
    keepsOrder();
    Due.end();
  }

  private static void wrongOnes() {
    ClusterShelf x = new ClusterShelf(3);
    for (int bad : new int[] {-1, 3, Integer.MIN_VALUE, Integer.MAX_VALUE}) {
      Due.iae("from " + bad, () -> x.delay(bad, 0, 1));
      Due.iae("to " + bad, () -> x.delay(0, bad, 1));
    }
    for (int bad : new int[] {0, 21, -1, Integer.MIN_VALUE, Integer.MAX_VALUE}) {
      Due.iae("ticks " + bad, () -> x.delay(0, 1, bad));
    }
    Due.begin(x, 0, Due.STAT, 1, 0);
    Due.is("it stays 1", x.message(0, 5), 1);
  }

  private static void takesSoLong() {
    ClusterShelf x = new ClusterShelf(3);
    x.delay(0, 1, 20);
    x.delay(0, 0, 4);
    x.delay(1, 0, 2);
    Due.begin(x, 0, Due.STAT, 1, 0);
    Due.is("to node 1", x.message(0, 5), 20);
    x.delay(0, 1, 1);
    Due.is("what is sent already stays", x.message(0, 5), 20);
    Due.is("not yet", x.tick(19), 0);
    Due.is("it is under way", x.message(0, 2), 0);
    x.tick(1);
    Due.is("the grant", x.message(0, 2), 1);
    Due.is("back", x.message(0, 5), 22);
    Due.is("it ends", x.tick(2), 1);
    Due.is("ticks", x.result(0, 2), 22);
    Due.begin(x, 0, Due.STAT, 0, 0);
    Due.is("to itself", x.message(0, 5), 26);
    Due.is("the other direction is its own", x.tick(8), 1);
  }

  private static void keepsOrder() {
    ClusterShelf x = new ClusterShelf(3);
    // Node 0 is the master of the root; it grants to node 2, slowly.
    x.delay(0, 2, 10);
    Due.begin(x, 2, Due.STAT, 0, 0);
    x.tick(1);
    Due.is("grant comes at", x.message(0, 5), 11);
    x.delay(0, 2, 1);
    Due.begin(x, 0, Due.REMOVE, 0, 5);
    x.tick(1);
    Due.is("call back behind it", x.message(1, 2), 2);
    Due.is("to the same node", x.message(1, 1), 2);
    Due.is("not ahead of the grant", x.message(1, 5), 11);
    Due.begin(x, 1, Due.STAT, 2, 0);
    Due.is("another pair of nodes", x.message(2, 5), 3);
    Due.is("both come in order, and that of node 1 has ended", x.tick(9), 2);
    Due.is("granted, ended, and called back", x.lock(2, 0, 0), 0);
    Due.is("it goes down then", x.message(0, 2), 3);
    x.tick(2);
    Due.is("and the other one has it", x.lock(0, 0, 0), 2);

    // One that is gone doesn't count.
    ClusterShelf y = new ClusterShelf(3);
    y.delay(1, 0, 20);
    Due.begin(y, 0, Due.STAT, 1, 0);
    y.tick(1);
    Due.is("slow", y.message(0, 5), 21);
    y.crash(2, 0);
    y.delay(1, 0, 2);
    y.recover(2);
    Due.is("laid anew", y.message(0, 5), 3);
  }
}

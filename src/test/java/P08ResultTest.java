/** Promise 8: how a node's latest call stands. */
public final class P08ResultTest {
  public static void main(String[] args) {
    ClusterShelf x = new ClusterShelf(2);
    for (int bad : new int[] {-1, 2, Integer.MIN_VALUE, Integer.MAX_VALUE}) {
      Due.iae("node " + bad, () -> x.result(bad, 0));
    }
    for (int bad : new int[] {-1, 5, Integer.MIN_VALUE, Integer.MAX_VALUE}) {
      Due.iae("what " + bad, () -> x.result(0, bad));
    }
    stands("none was begun", x, 0, 0, 0, 0, 0);
    x.tick(3);
    Due.begin(x, 0, Due.MAKE, 0, 5, 1);
    stands("under way", x, 1, 0, 0, 1, 1);
    x.tick(1);
    stands("under way, a tick later", x, 1, 0, 1, 1, 1);
    x.tick(3);
    stands("under way, with more in its list", x, 1, 0, 4, 3, 3);
    x.tick(2);
    stands("done", x, 2, 1, 6, 4, 3);
    x.tick(9);
    stands("done, later", x, 2, 1, 6, 4, 3);
    Due.begin(x, 0, Due.LOOK, 0, 6);
    stands("a fault at once", x, 3, -3, 0, 2, 1);
    Due.begin(x, 0, Due.SYNC);
    stands("sync under way", x, 1, 0, 0, 0, 0);
    x.tick(11);
    stands("sync done", x, 2, 0, 11, 1, 0);
    Due.begin(x, 0, Due.SYNC);
    stands("sync done at once", x, 2, 0, 0, 1, 0);
    Due.begin(x, 0, Due.ROOM);
    stands("room waits for the second map", x, 1, 0, 0, 2, 2);
    x.tick(3);
    stands("and for the third one", x, 1, 0, 3, 3, 3);
    x.crash(0, 0);
    stands("lost", x, 4, 0, 3, 3, 3);
    x.tick(5);
    x.recover(0);
    x.start(0);
    stands("lost, later", x, 4, 0, 3, 3, 3);
    Due.begin(x, 0, Due.SYNC);
    stands("anew", x, 2, 0, 0, 1, 0);
    Due.end();
  }

  private static void stands(String what, ClusterShelf x, int... due) {
    for (int i = 0; i < due.length; i++) {
      Due.is(what + ": result(0, " + i + ")", x.result(0, i), due[i]);
    }
  }
}

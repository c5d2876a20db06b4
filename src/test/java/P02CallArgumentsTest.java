/** Promise 2: what a call may have, what it throws, and that it changes nothing then. */
public final class P02CallArgumentsTest {
  private static final int MIN = Integer.MIN_VALUE;
  private static final int MAX = Integer.MAX_VALUE;

  public static void main(String[] args) {
    wrongOnes();
    rightOnes();
    states();
    endsAtOnce();
    Due.end();
  }

  private static void wrong(int node, int... kindAndArgs) {
    ClusterShelf x = new ClusterShelf(3);
    int[] all = new int[5];
    System.arraycopy(kindAndArgs, 0, all, 0, kindAndArgs.length);
    String what = "call(" + node + ", " + java.util.Arrays.toString(all) + ")";
    Due.iae(what, () -> x.call(node, all[0], all[1], all[2], all[3], all[4]));
    for (int i = 0; i < 3; i++) {
      Due.is(what + " begins nothing", x.result(i, 0), 0);
    }
    Due.is(what + " sends nothing", x.about(2), 0);
    // An argument is looked at ahead of the node's state.
    if (node == 0) {
      x.crash(0, 0);
      Due.iae(what + " when down", () -> x.call(node, all[0], all[1], all[2], all[3], all[4]));
    }
  }

  private static void wrongOnes() {
    for (int node : new int[] {-1, 3, 4, MIN, MAX}) {
      wrong(node, Due.SYNC);
      wrong(node, Due.LOOK, 0, 1);
    }
    for (int kind : new int[] {-1, 15, 16, MIN, MAX}) {
      wrong(0, kind, 0, 1, 1, 1);
    }
    int[] withInode = {0, 1, 2, 3, 4, 5, 6, 7, 8, 9, 11, 12, 13};
    for (int kind : withInode) {
      for (int inode : new int[] {-1, 128, MIN, MAX}) {
        wrong(0, kind, inode, 1, 1, 1);
      }
    }
    for (int kind = 0; kind < 5; kind++) {
      wrong(0, kind, 0, 0, 1, 1);
    }
    for (int bad : new int[] {0, 3, -1, MIN, MAX}) {
      wrong(0, Due.MAKE, 0, 1, bad);
    }
    for (int bad : new int[] {-1, 128, MIN, MAX}) {
      wrong(0, Due.LINK, 0, 1, bad);
      wrong(0, Due.RENAME, 0, 1, bad, 1);
    }
    wrong(0, Due.RENAME, 0, 1, 0, 0);
    for (int bad : new int[] {-1, 384, MIN, MAX}) {
      wrong(0, Due.READ, 0, bad);
      wrong(0, Due.WRITE, 0, bad);
      wrong(0, Due.ADD, 0, bad);
    }
    for (int bad : new int[] {-1, 385, MIN, MAX}) {
      wrong(0, Due.CUT, 0, bad);
    }
    for (int bad : new int[] {-1, 192, MIN, MAX}) {
      wrong(0, Due.ENTRY, 0, bad);
    }
    for (int bad : new int[] {-1, 4, MIN, MAX}) {
      wrong(0, Due.STAT, 0, bad);
    }
  }

  private static void right(int... kindAndArgs) {
    ClusterShelf x = new ClusterShelf(2);
    int[] all = new int[5];
    System.arraycopy(kindAndArgs, 0, all, 0, kindAndArgs.length);
    String what = "call(0, " + java.util.Arrays.toString(all) + ")";
    Due.is(what, x.call(0, all[0], all[1], all[2], all[3], all[4]), 0);
    Due.is(what + " is under way", x.result(0, 0), 1);
  }

  private static void rightOnes() {
    right(Due.LOOK, 127, MIN, MIN, MAX);
    right(Due.LOOK, 0, -1);
    right(Due.MAKE, 127, MAX, 1);
    right(Due.MAKE, 0, 1, 2);
    right(Due.REMOVE, 127, 1);
    right(Due.LINK, 127, 1, 127);
    right(Due.LINK, 0, 1, 0);
    right(Due.RENAME, 127, 1, 127, -1);
    right(Due.READ, 127, 383);
    right(Due.READ, 0, 0);
    right(Due.WRITE, 127, 383, MIN);
    right(Due.CUT, 127, 384);
    right(Due.CUT, 0, 0);
    right(Due.ENTRY, 127, 191);
    right(Due.STAT, 127, 3);
    right(Due.ADD, 127, 383, MAX);
    right(Due.APPEND, 127, MIN);
    right(Due.COUNT, 127, MIN, MIN, MIN);
    right(Due.ROOM, MIN, MIN, MIN, MIN);
  }

  private static void states() {
    ClusterShelf x = new ClusterShelf(2);
    x.call(0, Due.LOOK, 0, 1, 0, 0);
    Due.ise("a call is under way", () -> x.call(0, Due.SYNC, 0, 0, 0, 0));
    Due.iae("wrong, and a call is under way", () -> x.call(0, Due.LOOK, 0, 0, 0, 0));
    Due.is("it stays", x.result(0, 0), 1);
    Due.is("the other one may", x.call(1, Due.SYNC, 0, 0, 0, 0), 1);
    x.crash(1, 0);
    Due.ise("it is down", () -> x.call(1, Due.SYNC, 0, 0, 0, 0));
    x.recover(1);
    Due.ise("it is down and not joined", () -> x.call(1, Due.SYNC, 0, 0, 0, 0));
    x.start(1);
    Due.is("it is up again", x.call(1, Due.SYNC, 0, 0, 0, 0), 1);
  }

  private static void endsAtOnce() {
    ClusterShelf x = new ClusterShelf(2);
    Due.is("nothing is held", x.call(0, Due.COUNT, 0, 0, 0, 0), 0);
    x.tick(2);
    Due.is("it came to", x.result(0, 0), 2);
    Due.is("all is held", x.call(0, Due.COUNT, 0, 0, 0, 0), 1);
    Due.is("a fault ends it, too", x.call(0, Due.LOOK, 0, 5, 0, 0), 1);
    Due.is("the fault", x.result(0, 1), -3);
    Due.is("alone is more than is held", x.call(0, Due.REMOVE, 0, 5, 0, 0), 0);
  }
}

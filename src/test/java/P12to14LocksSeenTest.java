/** Promises 12, 13 and 14: locks, rows and messages as they are seen. */
public final class P12to14LocksSeenTest {
  private static final int NONE = ClusterShelf.NONE;

  public static void main(String[] args) {
    wrongOnes();
    lock();
    row();
    message();
    Due.end();
  }

  private static void wrongOnes() {
    ClusterShelf x = new ClusterShelf(2);
    for (int bad : new int[] {-1, 2, Integer.MIN_VALUE, Integer.MAX_VALUE}) {
      Due.iae("lock of node " + bad, () -> x.lock(bad, 0, 0));
    }
    for (int bad : new int[] {-1, 136, Integer.MIN_VALUE, Integer.MAX_VALUE}) {
      Due.iae("lock of resource " + bad, () -> x.lock(0, bad, 0));
      Due.iae("row of resource " + bad, () -> x.row(bad, 0));
    }
    for (int bad : new int[] {-1, 5, Integer.MIN_VALUE, Integer.MAX_VALUE}) {
      Due.iae("lock of what " + bad, () -> x.lock(0, 0, bad));
    }
    Due.iae("row of what -1", () -> x.row(0, -1));
    Due.iae("row of what below", () -> x.row(0, Integer.MIN_VALUE));
    Due.is("row far behind", x.row(135, Integer.MAX_VALUE), NONE);
    Due.is("row far behind", x.row(135, Integer.MAX_VALUE - 1), NONE);
    Due.ioobe("no message", () -> x.message(0, 0));
    Due.ioobe("no message ahead of what", () -> x.message(0, 6));
    Due.begin(x, 0, Due.COUNT, 0);
    Due.ioobe("below 0", () -> x.message(-1, 0));
    Due.ioobe("behind", () -> x.message(1, 0));
    for (int bad : new int[] {-1, 6, Integer.MIN_VALUE, Integer.MAX_VALUE}) {
      Due.iae("message of what " + bad, () -> x.message(0, bad));
    }
  }

  private static void locks(String what, ClusterShelf x, int node, int resource, int... due) {
    for (int i = 0; i < 5; i++) {
      Due.is(what + ": lock(" + node + ", " + resource + ", " + i + ")",
          x.lock(node, resource, i), due[i]);
    }
  }

  private static void lock() {
    ClusterShelf x = new ClusterShelf(2);
    Due.begin(x, 0, Due.MAKE, 0, 5, 1);
    locks("asked", x, 0, 0, 0, 2, NONE, 2, 0);
    x.tick(1);
    locks("given", x, 0, 0, 0, 2, NONE, 2, 2);
    x.tick(1);
    locks("held", x, 0, 0, 2, 0, NONE, 2, 2);
    locks("then the map", x, 0, 128, 0, 2, NONE, 2, 0);
    x.tick(4);
    locks("ended", x, 0, 0, 2, 0, NONE, 0, 2);
    Due.begin(x, 1, Due.RENAME, 0, 5, 0, 6);
    x.tick(2);
    locks("called back", x, 0, 0, 2, 0, 0, 0, 2);
    locks("asked", x, 1, 0, 0, 2, NONE, 2, 0);
    Due.begin(x, 0, Due.LOOK, 0, 5);
    locks("listed, but called back and not asked for", x, 0, 0, 2, 0, 0, 1, 2);
    x.tick(10);
    locks("went down, and asks then", x, 0, 0, 0, 1, NONE, 1, 2);
    x.tick(1);
    locks("the master knows", x, 0, 0, 0, 1, NONE, 1, 0);
    locks("and gives to the other", x, 1, 0, 0, 2, NONE, 2, 2);
    x.crash(0, 0);
    locks("the master is down", x, 1, 0, 0, 2, NONE, 2, 0);
    locks("it has nothing", x, 0, 0, 0, 0, NONE, 0, 0);
    locks("node 1 gave it that", x, 0, 1, 0, 0, NONE, 0, 2);
  }

  private static void row() {
    ClusterShelf x = new ClusterShelf(4);
    for (int r = 0; r < 136; r++) {
      Due.is("master", x.row(r, 0), r % 4);
    }
    Due.fault("node 3 has it alone", x, -3, 3, Due.REMOVE, 0, 9);
    Due.begin(x, 2, Due.COUNT, 0);
    Due.begin(x, 1, Due.REMOVE, 0, 9);
    Due.begin(x, 0, Due.COUNT, 0);
    x.tick(1);
    int[] due = {0, 3, 2, 1, 1, 2, 0, 1, NONE, NONE, NONE};
    for (int what = 0; what < due.length; what++) {
      Due.is("row(0, " + what + ")", x.row(0, what), due[what]);
    }
    Due.is("another row", x.row(1, 1), 0);
    x.tick(2);
    int[] later = {0, 2, 1, 2, 0, 1, NONE, NONE};
    for (int what = 0; what < later.length; what++) {
      Due.is("when the first was served: row(0, " + what + ")", x.row(0, what), later[what]);
    }
    x.crash(0, 0);
    int[] down = {0, 0, NONE, NONE, NONE};
    for (int what = 0; what < down.length; what++) {
      Due.is("the master is down: row(0, " + what + ")", x.row(0, what), down[what]);
    }
    x.recover(0);
    Due.is("the next one", x.row(0, 0), 1);
    Due.is("others stay", x.row(1, 0), 1);
    Due.is("for group 0's map, too", x.row(128, 0), 1);
    int[] anew = {1, 2, 1, 2, 2, 1, NONE};
    for (int what = 0; what < anew.length; what++) {
      Due.is("in the order of the nodes: row(0, " + what + ")", x.row(0, what), anew[what]);
    }
    x.crash(3, 0);
    x.recover(3);
    Due.is("3, then 0, then 1", x.row(3, 0), 1);
  }

  private static void letter(String what, ClusterShelf x, int i, int from, int to, int... due) {
    Due.is(what + ": from", x.message(i, 0), from);
    Due.is(what + ": to", x.message(i, 1), to);
    for (int j = 0; j < due.length; j++) {
      Due.is(what + ": " + (2 + j), x.message(i, 2 + j), due[j]);
    }
  }

  private static void message() {
    ClusterShelf x = new ClusterShelf(3);
    x.delay(1, 0, 5);
    Due.begin(x, 2, Due.COUNT, 0);
    Due.begin(x, 1, Due.MAKE, 0, 9, 1);
    Due.begin(x, 0, Due.STAT, 5, 0);
    letter("first", x, 0, 2, 0, 0, 0, 1, 1);
    letter("second", x, 1, 1, 0, 0, 0, 2, 5);
    letter("third", x, 2, 0, 2, 0, 5, 1, 1);
    x.tick(1);
    Due.is("three again", x.about(1), 3);
    letter("the slow one is first", x, 0, 1, 0, 0, 0, 2, 5);
    letter("grant", x, 1, 0, 2, 1, 0, 1, 2);
    letter("grant", x, 2, 2, 0, 1, 5, 1, 2);
    x.tick(4);
    letter("call back", x, 0, 0, 2, 2, 0, 0, 6);
    x.tick(1);
    letter("release", x, 0, 2, 0, 3, 0, 0, 7);
    Due.is("one", x.about(1), 1);
  }
}

/** Section 4: messages in their order, rows, call backs that come twice or for nothing, flushes. */
public final class Edges4MessagesTest {
  private static final int NONE = ClusterShelf.NONE;
  private static final int REQUEST = 0;
  private static final int GRANT = 1;
  private static final int CALL_BACK = 2;
  private static final int RELEASE = 3;

  public static void main(String[] args) {
    notAheadOfTheOneAheadOfIt();
    otherPairsDoNotMatter();
    whatCameDoesNotMatter();
    goneOnesDoNotCount();
    toItself();
    rowOfFour();
    sharedBehindAlone();
    sharedTogether();
    noCallBackToWhatItHas();
    noSecondCallBack();
    firstToSharedThenToNone();
    calledBackToWhatItHolds();
    calledBackTwice();
    grantOfLess();
    sharedGoesDownAtOnce();
    aloneWithAnEmptyLog();
    inOrderOfNumbers();
    leavesByWhatIsCached();
    Due.end();
  }

  private static void letter(String what, ClusterShelf x, int i, int... due) {
    for (int j = 0; j < due.length; j++) {
      Due.is(what + ": message(" + i + ", " + j + ")", x.message(i, j), due[j]);
    }
  }

  /** "not ahead of the one that was sent ahead of it between these nodes in this direction". */
  private static void notAheadOfTheOneAheadOfIt() {
    ClusterShelf x = new ClusterShelf(3);
    x.delay(0, 2, 20);
    Due.begin(x, 2, Due.STAT, 0, 0);
    x.tick(1);
    letter("the grant", x, 0, 0, 2, GRANT, 0, 1, 21);
    x.delay(0, 2, 1);
    Due.begin(x, 1, Due.REMOVE, 0, 5);
    x.tick(1);
    letter("a call back at the same time", x, 1, 0, 2, CALL_BACK, 0, 0, 21);
    x.delay(0, 2, 20);
    Due.begin(x, 0, Due.STAT, 2, 0);
    letter("a slower one at its own time", x, 2, 0, 2, REQUEST, 2, 1, 22);
    x.tick(18);
    Due.is("none came", x.about(1), 3);
    x.tick(1);
    Due.is("the grant came first: it ended", x.result(2, 0), 2);
    Due.is("then the call back: it holds nothing", x.lock(2, 0, 0), 0);
    letter("the slower one", x, 0, 0, 2, REQUEST, 2, 1, 22);
    letter("the release", x, 1, 2, 0, RELEASE, 0, 0, 22);
  }

  private static void otherPairsDoNotMatter() {
    ClusterShelf x = new ClusterShelf(3);
    x.delay(0, 2, 20);
    Due.begin(x, 0, Due.STAT, 2, 0);
    letter("slow", x, 0, 0, 2, REQUEST, 2, 1, 20);
    Due.begin(x, 1, Due.STAT, 2, 0);
    letter("from another one", x, 1, 1, 2, REQUEST, 2, 1, 1);
    Due.begin(x, 2, Due.STAT, 0, 0);
    letter("the other way", x, 2, 2, 0, REQUEST, 0, 1, 1);
    x.tick(1);
    letter("to the same one, from itself", x, 1, 2, 1, GRANT, 2, 1, 2);
    letter("behind the slow one", x, 2, 0, 2, GRANT, 0, 1, 21);
  }

  private static void whatCameDoesNotMatter() {
    ClusterShelf x = new ClusterShelf(2);
    x.delay(0, 1, 10);
    Due.begin(x, 0, Due.STAT, 1, 0);
    x.tick(10);
    x.delay(0, 1, 1);
    x.tick(1);
    Due.begin(x, 0, Due.STAT, 3, 0);
    letter("its own time", x, 0, 0, 1, REQUEST, 3, 1, 12);
  }

  /** "(one that is gone doesn't count)". */
  private static void goneOnesDoNotCount() {
    ClusterShelf x = new ClusterShelf(2);
    x.delay(0, 1, 20);
    Due.begin(x, 0, Due.STAT, 1, 0);
    letter("slow", x, 0, 0, 1, REQUEST, 1, 1, 20);
    x.crash(1, 0);
    Due.is("gone", x.about(1), 0);
    x.delay(0, 1, 3);
    x.recover(1);
    letter("by itself now", x, 0, 0, 0, GRANT, 1, 1, 1);
    x.start(1);
    letter("laid anew, to the master that started", x, 0, 1, 0, GRANT, 1, 1, 1);
    x.tick(1);
    Due.begin(x, 0, Due.STAT, 3, 0);
    letter("not held up by what is gone", x, 0, 0, 1, REQUEST, 3, 1, 4);
  }

  /** "MESSAGES go from a node to a node (also itself)", with a delay of their own. */
  private static void toItself() {
    ClusterShelf x = new ClusterShelf(2);
    x.delay(1, 1, 20);
    Due.begin(x, 1, Due.STAT, 1, 0);
    letter("a request", x, 0, 1, 1, REQUEST, 1, 1, 20);
    x.delay(1, 1, 2);
    Due.is("not yet", x.tick(20), 0);
    letter("a grant", x, 0, 1, 1, GRANT, 1, 1, 22);
    Due.is("it ends", x.tick(2), 1);
    Due.begin(x, 0, Due.WRITE, 1, 0, 0);
    x.tick(1);
    letter("a call back", x, 0, 1, 1, CALL_BACK, 1, 0, 25);
    x.tick(2);
    letter("a release", x, 0, 1, 1, RELEASE, 1, 0, 27);
    Due.is("sent", x.about(2), 5);
  }

  /** All four nodes in one row, the one that holds it, too. */
  private static void rowOfFour() {
    ClusterShelf x = new ClusterShelf(4);
    Due.go(x, 3, Due.COUNT, 0);
    for (int node = 0; node < 4; node++) {
      Due.begin(x, node, Due.REMOVE, 0, 9);
    }
    x.tick(1);
    int[] due = {0, 4, 0, 2, 1, 2, 2, 2, 3, 2, NONE, NONE, NONE};
    for (int what = 0; what < due.length; what++) {
      Due.is("row(0, " + what + ")", x.row(0, what), due[what]);
    }
    Due.is("one call back, for the first one", x.about(1), 1);
    letter("it", x, 0, 0, 3, CALL_BACK, 0, 0);
    for (int node = 0; node < 4; node++) {
      for (int t = 0; t < 9 && x.result(node, 0) == 1; t++) {
        x.tick(1);
      }
      Due.is("node " + node + " ends", x.result(node, 0), 3);
      for (int other = node + 1; other < 4; other++) {
        Due.is("ahead of node " + other, x.result(other, 0), 1);
      }
    }
    Due.is("the row is empty", x.row(0, 1), 0);
    Due.is("the last one holds it", x.lock(3, 0, 0), 2);
  }

  /** A request that stands against none waits in the row behind one that does. */
  private static void sharedBehindAlone() {
    ClusterShelf x = new ClusterShelf(4);
    Due.go(x, 3, Due.COUNT, 0);
    x.delay(0, 3, 9);
    Due.begin(x, 1, Due.REMOVE, 0, 9);
    Due.begin(x, 2, Due.COUNT, 0);
    x.tick(1);
    Due.is("both", x.row(0, 1), 2);
    Due.is("the call back alone", x.about(1), 1);
    x.tick(8);
    Due.is("both still", x.row(0, 1), 2);
    Due.is("given to node 2", x.lock(2, 0, 4), 0);
    x.tick(3);
    Due.is("node 1 ended", x.result(1, 0), 3);
    Due.is("node 2 has not", x.result(2, 0), 1);
    x.tick(2);
    Due.is("now it has", x.result(2, 0), 2);
  }

  private static void sharedTogether() {
    ClusterShelf x = new ClusterShelf(4);
    Due.fault("alone", x, -3, 0, Due.REMOVE, 0, 9);
    for (int node = 1; node < 4; node++) {
      Due.begin(x, node, Due.COUNT, 0);
    }
    x.tick(1);
    Due.is("three in the row", x.row(0, 1), 3);
    Due.is("one call back", x.about(1), 1);
    letter("to shared", x, 0, 0, 0, CALL_BACK, 0, 1);
    x.tick(2);
    Due.is("all are given at once", x.row(0, 1), 0);
    Due.is("three grants", x.about(1), 3);
    Due.is("all end", x.tick(1), 3);
    for (int node = 0; node < 4; node++) {
      Due.is("shared", x.lock(node, 0, 0), 1);
      Due.is("given", x.lock(node, 0, 4), 1);
    }
  }

  /** One that has a mode that a request doesn't stand against is not called back. */
  private static void noCallBackToWhatItHas() {
    ClusterShelf x = new ClusterShelf(3);
    Due.go(x, 1, Due.COUNT, 0);
    Due.begin(x, 2, Due.COUNT, 0);
    x.tick(1);
    Due.is("one message", x.about(1), 1);
    letter("a grant", x, 0, 0, 2, GRANT, 0, 1);
    x.tick(1);
    Due.begin(x, 2, Due.REMOVE, 0, 9);
    x.tick(1);
    Due.is("one message", x.about(1), 1);
    letter("the asking one isn't called back", x, 0, 0, 1, CALL_BACK, 0, 0);
  }

  /** "unless that node was called back to that mode or a lower one and hasn't released". */
  private static void noSecondCallBack() {
    ClusterShelf x = new ClusterShelf(4);
    Due.go(x, 3, Due.MAKE, 0, 5, 1);
    Due.begin(x, 1, Due.COUNT, 0);
    x.tick(2);
    Due.is("called back", x.lock(3, 0, 2), 1);
    int sent = x.about(2);
    Due.begin(x, 2, Due.COUNT, 0);
    x.tick(2);
    Due.is("the request alone was sent", x.about(2), sent + 1);
    Due.begin(x, 0, Due.REMOVE, 0, 9);
    x.tick(2);
    Due.is("and this one", x.about(2), sent + 2);
    Due.is("three wait", x.row(0, 1), 3);
    Due.is("called back to shared", x.lock(3, 0, 2), 1);
  }

  private static void firstToSharedThenToNone() {
    ClusterShelf x = new ClusterShelf(3);
    Due.go(x, 2, Due.MAKE, 0, 5, 1);
    Due.begin(x, 1, Due.COUNT, 0);
    Due.begin(x, 0, Due.REMOVE, 0, 9);
    x.tick(2);
    Due.is("to shared", x.lock(2, 0, 2), 1);
    Due.is("as a flush has its time", x.tick(10), 0);
    Due.is("it went down", x.lock(2, 0, 0), 1);
    Due.is("called back no more", x.lock(2, 0, 2), NONE);
    x.tick(1);
    letter("a grant", x, 0, 0, 1, GRANT, 0, 1);
    letter("and a call back behind it", x, 1, 0, 1, CALL_BACK, 0, 0);
    letter("and one to node 2", x, 2, 0, 2, CALL_BACK, 0, 0);
    Due.is("node 1 ends", x.tick(1), 1);
    Due.is("and holds nothing", x.lock(1, 0, 0) + x.lock(2, 0, 0), 0);
    Due.is("given still", x.lock(1, 0, 4) + x.lock(2, 0, 4), 2);
    x.tick(1);
    Due.is("released", x.lock(1, 0, 4) + x.lock(2, 0, 4), 0);
    Due.is("node 0 ends", x.tick(1), 1);
  }

  /** "if it holds r in mode m or a lower one, a RELEASE r with the mode that it holds goes". */
  private static void calledBackToWhatItHolds() {
    int[][] due = {{0, 0}, {0, 1}, {1, 1}};
    for (int[] pair : due) {
      ClusterShelf x = new ClusterShelf(3);
      if (pair[0] == 1) {
        Due.go(x, 1, Due.COUNT, 0);
      }
      int cached = x.node(1, 5);
      Inside.callBack(x, 0, 1, 0, pair[1]);
      x.tick(1);
      String what = "holds " + pair[0] + ", called back to " + pair[1];
      letter(what, x, 0, 1, 0, RELEASE, 0, pair[0]);
      Due.is(what + ": one message", x.about(1), 1);
      Due.is(what + ": it holds", x.lock(1, 0, 0), pair[0]);
      Due.is(what + ": not called back", x.lock(1, 0, 2), NONE);
      Due.is(what + ": cache", x.node(1, 5), cached);
      x.tick(1);
      Due.is(what + ": given", x.lock(1, 0, 4), pair[0]);
    }
    // Alone, with a log: that is not what it is called back to, and it waits.
    ClusterShelf x = new ClusterShelf(3);
    Due.go(x, 1, Due.MAKE, 0, 5, 1);
    Inside.callBack(x, 0, 1, 0, 2);
    x.tick(1);
    letter("alone, called back to alone", x, 0, 1, 0, RELEASE, 0, 2);
    Due.is("no flush", x.node(1, 4), 0);
    Due.is("not called back", x.lock(1, 0, 2), NONE);
  }

  /** "it is called back to m (the lower mode, if it was already)". */
  private static void calledBackTwice() {
    int[][] due = {{1, 0, 0}, {0, 1, 0}, {1, 1, 1}, {0, 0, 0}};
    for (int[] modes : due) {
      ClusterShelf x = new ClusterShelf(2);
      Due.go(x, 1, Due.MAKE, 0, 5, 1);
      String what = "called back to " + modes[0] + " and " + modes[1];
      Inside.callBack(x, 0, 1, 0, modes[0]);
      x.tick(1);
      Due.is(what + ": first", x.lock(1, 0, 2), modes[0]);
      Due.is(what + ": a flush", x.node(1, 3), 10);
      Inside.callBack(x, 0, 1, 0, modes[1]);
      x.tick(1);
      Due.is(what + ": then", x.lock(1, 0, 2), modes[2]);
      Due.is(what + ": no answer yet", x.about(1), 0);
      Due.is(what + ": the same flush", x.node(1, 3), 9);
      x.tick(9);
      Due.is(what + ": it holds", x.lock(1, 0, 0), modes[2]);
      Due.is(what + ": not called back", x.lock(1, 0, 2), NONE);
      Due.is(what + ": one release", x.about(1), 1);
      letter(what, x, 0, 1, 0, RELEASE, 0, modes[2]);
      Due.is(what + ": cache", Due.isCached(x, 1, 129) ? 1 : 0, modes[2]);
      Due.is(what + ": its data", Due.isCached(x, 1, 145) ? 1 : 0, modes[2]);
    }
  }

  /** "it holds r in mode m (or the higher one that it has)": it asks for more, and has no less. */
  private static void grantOfLess() {
    ClusterShelf x = new ClusterShelf(2);
    Due.fault("alone", x, -3, 1, Due.REMOVE, 0, 9);
    Due.is("shared is less", Due.begin(x, 1, Due.COUNT, 0), 1);
    Due.is("alone still", x.lock(1, 0, 0), 2);
    Due.is("nothing was asked", x.about(1), 0);
    Due.is("its list had less", x.result(1, 4), 1);
  }

  /** What is held shared waits for no flush. */
  private static void sharedGoesDownAtOnce() {
    ClusterShelf x = new ClusterShelf(3);
    Due.fault("nothing", x, -5, 0, Due.STAT, 9, 0);
    Due.go(x, 0, Due.MAKE, 0, 5, 1);
    Due.is("a log", x.node(0, 2), 4);
    Due.begin(x, 1, Due.WRITE, 9, 0, 1);
    x.tick(2);
    Due.is("it went down", x.lock(0, 9, 0), 0);
    Due.is("its block left", Due.isCached(x, 0, 138) ? 1 : 0, 0);
    Due.is("no flush", x.node(0, 4), 0);
    Due.is("log", x.node(0, 2), 4);
  }

  /** What is held alone waits only if there is something to write. */
  private static void aloneWithAnEmptyLog() {
    ClusterShelf x = new ClusterShelf(3);
    Due.go(x, 0, Due.MAKE, 0, 5, 1);
    Due.go(x, 0, Due.SYNC);
    Due.begin(x, 1, Due.COUNT, 0);
    x.tick(2);
    Due.is("it went down", x.lock(0, 0, 0), 1);
    Due.is("no further flush", x.node(0, 4), 1);
    Due.is("the other one ends", x.tick(2), 1);
    // Another resource's blocks in the log are waited for, as well.
    Due.go(x, 0, Due.WRITE, 1, 0, 3);
    Due.begin(x, 1, Due.ROOM);
    x.tick(2);
    Due.is("called back", x.lock(0, 128, 2), 1);
    Due.is("a flush of map, inode, block", x.node(0, 3), 8);
    x.tick(8);
    Due.is("it went down", x.lock(0, 128, 0), 1);
    Due.is("the inode stays", x.lock(0, 1, 0), 2);
  }

  /** "the resources that wait go down, in order": by number, not by when they were called back. */
  private static void inOrderOfNumbers() {
    ClusterShelf x = new ClusterShelf(4);
    Due.go(x, 0, Due.MAKE, 0, 5, 1);
    Due.begin(x, 1, Due.ROOM);
    x.tick(2);
    Due.is("the map waits", x.lock(0, 128, 2), 1);
    Due.begin(x, 2, Due.STAT, 1, 0);
    x.tick(2);
    Due.is("the inode waits", x.lock(0, 1, 2), 1);
    Due.begin(x, 3, Due.COUNT, 0);
    x.tick(2);
    Due.is("the root waits", x.lock(0, 0, 2), 1);
    x.tick(6);
    Due.is("three releases", x.about(1), 3);
    int[] order = {0, 1, 128};
    for (int i = 0; i < 3; i++) {
      letter("release " + i, x, i, 0, order[i] % 4, RELEASE, order[i], 1);
    }
  }

  /** "an inode's block, its index and data by what the cached inode and index say". */
  private static void leavesByWhatIsCached() {
    ClusterShelf x = new ClusterShelf(2);
    Due.go(x, 0, Due.MAKE, 0, 5, 1);
    Due.go(x, 0, Due.MAKE, 0, 6, 1);
    Due.go(x, 0, Due.WRITE, 1, 128, 3);
    Due.is("the index", x.cached(0, 130, 11), 146);
    Due.is("its block", x.cached(0, 146, 0), 147);
    Due.done("by node 1", x, 129, 1, Due.CUT, 1, 0);
    Due.nsee("all went", () -> x.cached(0, 147, 0));
    Due.done("the index again", x, 4, 1, Due.WRITE, 1, 144, 4);
    Due.done("it stays", x, 145, 1, Due.CUT, 1, 129);
    Due.done("its block is file 2's", x, 9, 0, Due.WRITE, 2, 0, 9);
    Due.is("block", x.cached(0, 131, 3), 147);
    Due.done("file 1 without its index", x, 129, 0, Due.STAT, 1, 2);
    Due.is("index", x.cached(0, 130, 11), 146);
    Due.nsee("it isn't cached", () -> x.cached(0, 146, 0));
    Due.done("by node 1 again", x, 5, 1, Due.WRITE, 1, 0, 5);
    Due.nsee("the inode went", () -> x.cached(0, 130, 0));
    Due.is("what isn't the file's stays", x.cached(0, 147, 0), 9);
  }
}

/** Section 5: torn writes over an older journal, what is sent to one that is down, recovery and start. */
public final class Edges5CrashTest {
  private static final int NONE = ClusterShelf.NONE;
  /** Images of 128, 130 and 146, table, head, these blocks, head. */
  private static final int WRITES = 9;

  public static void main(String[] args) {
    for (int done = 0; done < WRITES; done++) {
      for (int torn = 0; torn < 16; torn++) {
        secondFlush(done, torn);
      }
    }
    tornHead();
    betweenFlushes();
    nothingToTear();
    requestToOneThatIsDown();
    callBackToOneThatIsDown();
    grantToOneThatIsDown();
    releaseToOneThatIsDown();
    noneIsUp();
    startWhileAnotherOneIsDown();
    countedSinceItIsUp();
    lostOrNot();
    anewInOrder();
    Due.end();
  }

  /** File 1 is on the disk; its word 0 is written, and a second flush begins. */
  private static ClusterShelf second() {
    ClusterShelf x = new ClusterShelf(2);
    Due.go(x, 0, Due.MAKE, 0, 5, 1);
    Due.go(x, 0, Due.SYNC);
    Due.go(x, 0, Due.WRITE, 1, 0, 9);
    Due.begin(x, 0, Due.SYNC);
    return x;
  }

  private static void secondFlush(int done, int torn) {
    String what = "second flush, " + done + " writes, torn " + torn;
    ClusterShelf x = second();
    Due.is(what + ": writes", x.node(0, 3), WRITES);
    x.tick(done);
    ClusterShelf next = second();
    next.tick(done + 1);
    int block = x.node(0, 6);
    int[] before = new int[16];
    for (int w = 0; w < 16; w++) {
      before[w] = x.word(block, w);
    }
    x.crash(0, torn);
    for (int w = 0; w < 16; w++) {
      Due.is(what + ": word " + w, x.word(block, w), w < torn ? next.word(block, w) : before[w]);
    }
    boolean counts = done > 4 || done == 4 && torn >= 3;
    boolean isOver = done == WRITES - 1 && torn >= 3;
    Due.is(what + ": the first one is safe", x.history(0, 9), 2);
    Due.is(what + ": the second one", x.history(2, 9), counts ? 2 : 3);
    Due.is(what + ": about(9)", x.about(9), 0);
    Due.is(what + ": images", x.recover(0), counts && !isOver ? 3 : 0);
    Due.is(what + ": about(9)", x.about(9), 0);
    Due.is(what + ": head", x.word(1, 2), 0);
    if (counts) {
      Due.done(what, x, 9, 1, Due.READ, 1, 0);
    } else {
      Due.fault(what, x, -10, 1, Due.READ, 1, 0);
    }
  }

  /** "torn behind that word" is 3 and more; its other words come in order. */
  private static void tornHead() {
    int[][] due = {{1, 4, 0}, {2, 4, 0}, {2, 3, 0}, {2, 3, 1}, {2, 3, 1}};
    for (int torn = 0; torn < 16; torn++) {
      ClusterShelf x = second();
      x.tick(4);
      x.crash(0, torn);
      int[] head = due[Math.min(torn, 4)];
      for (int w = 0; w < 16; w++) {
        Due.is("torn " + torn + ", word " + w, x.word(1, w), w < 3 ? head[w] : 0);
      }
      Due.is("torn " + torn + ": what became of it", x.history(2, 9), torn >= 3 ? 2 : 3);
      Due.is("images", x.recover(0), torn >= 3 ? 3 : 0);
      Due.is("the head's first words stay", x.word(1, 0), head[0]);
      Due.is("the head's first words stay", x.word(1, 1), head[1]);
      Due.is("the word is 0 then", x.word(1, 2), 0);
    }
    // The head again: its word 2 is 0 from 3 torn words on.
    for (int torn = 0; torn < 16; torn++) {
      ClusterShelf x = second();
      x.tick(8);
      x.crash(0, torn);
      Due.is("at the end, torn " + torn, x.word(1, 2), torn >= 3 ? 0 : 1);
      Due.is("images", x.recover(0), torn >= 3 ? 0 : 3);
      Due.is("safe", x.history(2, 9), 2);
    }
  }

  /** A flush is over, and its last write done: nothing is left to tear. */
  private static void betweenFlushes() {
    ClusterShelf x = second();
    Due.is("over", x.tick(9), 1);
    String before = disk(x);
    x.crash(0, 15);
    Due.same("nothing is torn", disk(x), before);
    Due.is("no image", x.recover(0), 0);
    Due.same("nothing is written", disk(x), before);
    Due.done("all is there", x, 9, 1, Due.READ, 1, 0);
  }

  private static String disk(ClusterShelf x) {
    StringBuilder all = new StringBuilder();
    for (int block = 0; block < 640; block++) {
      for (int w = 0; w < 16; w++) {
        all.append(x.word(block, w)).append(' ');
      }
    }
    return all.toString();
  }

  private static void nothingToTear() {
    ClusterShelf x = new ClusterShelf(2);
    String before = disk(x);
    Due.go(x, 0, Due.MAKE, 0, 5, 1);
    x.crash(0, 15);
    Due.same("a log is gone", disk(x), before);
    Due.is("the call, too", x.history(0, 9), 3);
    Due.is("no image", x.recover(0), 0);
    Due.fault("no entry", x, -3, 1, Due.LOOK, 0, 5);
  }

  /** "What is sent to a node that is down is gone at once." */
  private static void requestToOneThatIsDown() {
    ClusterShelf x = new ClusterShelf(2);
    x.crash(1, 0);
    Due.begin(x, 0, Due.STAT, 1, 0);
    Due.is("sent", x.about(2), 1);
    Due.is("gone", x.about(1), 0);
    Due.is("asked", x.lock(0, 1, 1), 1);
    Due.is("no row", x.row(1, 1), 0);
    x.tick(100);
    Due.is("it waits", x.result(0, 0), 1);
    Due.is("it asks once", x.about(2), 1);
    x.recover(1);
    Due.is("a grant of the new master, to itself", x.about(2), 2);
    Due.is("it ends", x.tick(1), 1);
  }

  private static void callBackToOneThatIsDown() {
    ClusterShelf x = new ClusterShelf(3);
    Due.go(x, 1, Due.COUNT, 0);
    x.crash(1, 0);
    Due.is("given still", x.lock(1, 0, 4), 1);
    Due.is("shared isn't against it", Due.go(x, 2, Due.COUNT, 0), 0);
    int sent = x.about(2);
    Due.begin(x, 2, Due.REMOVE, 0, 9);
    x.tick(1);
    Due.is("a request, and a call back that is gone", x.about(2), sent + 2);
    Due.is("none is under way", x.about(1), 0);
    x.tick(50);
    Due.is("it waits", x.result(2, 0), 1);
    Due.is("no second one is sent", x.about(2), sent + 2);
    x.recover(1);
    Due.is("nothing is given to it", x.lock(1, 0, 4), 0);
    Due.is("it ends", x.tick(1), 1);
  }

  private static void grantToOneThatIsDown() {
    ClusterShelf x = new ClusterShelf(3);
    Due.go(x, 2, Due.MAKE, 0, 5, 1);
    Due.begin(x, 1, Due.COUNT, 0);
    x.tick(2);
    Due.is("its request waits", x.row(0, 1), 1);
    x.crash(1, 0);
    Due.is("it stays in the row", x.row(0, 2), 1);
    x.tick(10);
    int sent = x.about(2);
    x.tick(1);
    Due.is("a grant", x.about(2), sent + 1);
    Due.is("is gone", x.about(1), 0);
    Due.is("the row is empty", x.row(0, 1), 0);
    Due.is("the master has given it", x.lock(1, 0, 4), 1);
    Due.is("but it holds nothing", x.lock(1, 0, 0), 0);
  }

  private static void releaseToOneThatIsDown() {
    ClusterShelf x = new ClusterShelf(3);
    Due.go(x, 2, Due.MAKE, 0, 5, 1);
    Due.begin(x, 1, Due.COUNT, 0);
    x.tick(2);
    x.crash(0, 0);
    Due.is("called back still", x.lock(2, 0, 2), 1);
    int sent = x.about(2);
    x.tick(9);
    Due.is("the last write", x.node(2, 3), 1);
    Due.is("nothing was sent", x.about(2), sent);
    x.tick(1);
    Due.is("it went down", x.lock(2, 0, 0), 1);
    Due.is("a release", x.about(2), sent + 1);
    Due.is("is gone", x.about(1), 0);
    x.recover(0);
    Due.is("the new master knows what is held", x.lock(2, 0, 4), 1);
    Due.is("and gives", x.lock(1, 0, 4), 1);
    Due.is("it ends", x.tick(1), 1);
  }

  /** "(It can be done when no node is up, too.)", with two journals that count. */
  private static void noneIsUp() {
    ClusterShelf x = new ClusterShelf(3);
    Due.go(x, 0, Due.MAKE, 0, 5, 1);
    Due.go(x, 0, Due.SYNC);
    Due.go(x, 1, Due.WRITE, 1, 0, 77);
    Due.go(x, 0, Due.RENAME, 0, 5, 0, 6);
    Due.begin(x, 0, Due.SYNC);
    Due.begin(x, 1, Due.SYNC);
    // One block of node 0, three of node 1: their heads are written in the 3rd and the 5th tick.
    Due.is("node 0", x.node(0, 3), 5);
    Due.is("node 1", x.node(1, 3), 9);
    x.tick(3);
    x.crash(0, 7);
    x.tick(2);
    x.crash(1, 7);
    x.crash(2, 7);
    Due.is("about(9)", x.about(9), 0);
    x.tick(5);
    Due.is("time goes on", x.about(0) > 0 ? 1 : 0, 1);
    for (int node = 0; node < 3; node++) {
      Due.ise("all are joined", () -> x.start(0));
      Due.is("down", x.node(node, 0), 0);
    }
    Due.is("images of both", x.recover(2), 4);
    for (int node = 0; node < 3; node++) {
      int down = node;
      Due.is("not joined", x.node(node, 1), 0);
      Due.ise("not again", () -> x.recover(down));
    }
    for (int r = 0; r < 136; r++) {
      Due.is("no master", x.row(r, 0), NONE);
      Due.is("no row", x.row(r, 1), 0);
      Due.is("nothing in it", x.row(r, 2), NONE);
      Due.is("nothing is given", x.lock(0, r, 4) + x.lock(1, r, 4) + x.lock(2, r, 4), 0);
    }
    Due.is("about(9)", x.about(9), 0);
    Due.is("no tick ends a call", x.tick(100), 0);
    x.start(2);
    Due.is("it is the master of all", x.row(0, 0) + x.row(1, 0) + x.row(2, 0), 6);
    Due.done("renamed", x, 1, 2, Due.LOOK, 0, 6);
    Due.done("written", x, 77, 2, Due.READ, 1, 0);
    x.start(0);
    x.start(1);
    Due.done("by all", x, 77, 0, Due.READ, 1, 0);
    Due.done("by all", x, 77, 1, Due.READ, 1, 0);
  }

  /** "TO START a node that is down and not joined (while no node is down and joined)". */
  private static void startWhileAnotherOneIsDown() {
    ClusterShelf x = new ClusterShelf(4);
    x.crash(0, 0);
    x.crash(1, 0);
    x.recover(1);
    x.crash(2, 0);
    Due.refused("0, while 2 is", x, "IllegalStateException", () -> x.start(0));
    Due.refused("1, while 2 is", x, "IllegalStateException", () -> x.start(1));
    Due.refused("2 itself", x, "IllegalStateException", () -> x.start(2));
    Due.refused("3 is up", x, "IllegalStateException", () -> x.start(3));
    x.recover(2);
    x.crash(3, 0);
    Due.refused("0, while 3 is", x, "IllegalStateException", () -> x.start(0));
    x.recover(3);
    x.start(3);
    x.start(1);
    Due.is("1 is up and joined", x.node(1, 0) + x.node(1, 1), 2);
    Due.is("0 and 2 don't matter", x.node(0, 0) + x.node(0, 1) + x.node(2, 0) + x.node(2, 1), 0);
    Due.refused("up already", x, "IllegalStateException", () -> x.start(1));
    x.crash(1, 0);
    Due.refused("joined again", x, "IllegalStateException", () -> x.start(1));
    Due.refused("0, while 1 is", x, "IllegalStateException", () -> x.start(0));
    x.recover(1);
    x.start(0);
    x.crash(0, 0);
    Due.refused("1, while 0 is", x, "IllegalStateException", () -> x.start(1));
    x.recover(0);
    x.start(0);
    x.start(1);
    x.start(2);
    for (int node = 0; node < 4; node++) {
      Due.is("all are up", x.node(node, 0) + x.node(node, 1), 2);
      Due.done("and count", x, 0, node, Due.COUNT, 0);
    }
  }

  /** "how many flushes the node has begun since it is up". */
  private static void countedSinceItIsUp() {
    ClusterShelf x = second();
    x.tick(9);
    Due.is("two", x.node(0, 4), 2);
    Due.is("the head says so", x.word(1, 0), 2);
    x.crash(0, 0);
    Due.is("none", x.node(0, 4), 0);
    x.recover(0);
    x.start(0);
    Due.is("none", x.node(0, 4), 0);
    Due.is("the head stays", x.word(1, 0), 2);
    Due.go(x, 0, Due.WRITE, 1, 1, 10);
    Due.go(x, 0, Due.SYNC);
    Due.is("one", x.node(0, 4), 1);
    Due.is("the head says so", x.word(1, 0), 1);
  }

  /** A call is lost only if it is under way. */
  private static void lostOrNot() {
    ClusterShelf x = new ClusterShelf(2);
    x.crash(1, 0);
    Due.is("none was begun", x.result(1, 0), 0);
    Due.is("none is lost", x.about(5), 0);
    x.recover(1);
    x.start(1);
    Due.fault("a fault", x, -3, 1, Due.LOOK, 0, 9);
    x.crash(1, 0);
    Due.is("it stands", x.result(1, 0), 3);
    Due.is("with its fault", x.result(1, 1), -3);
    Due.is("none is lost", x.about(5), 0);
    Due.begin(x, 0, Due.STAT, 1, 0);
    x.tick(7);
    x.crash(0, 0);
    int[] due = {4, 0, 7, 1, 1};
    for (int what = 0; what < due.length; what++) {
      Due.is("lost: result(0, " + what + ")", x.result(0, what), due[what]);
    }
    Due.is("one is lost", x.about(5), 1);
    Due.is("it didn't end", x.about(4), 1);
    Due.ioobe("it is not in the history", () -> x.history(1, 0));
  }

  /** "for each node that is up, in order .., then all resources are served, in order". */
  private static void anewInOrder() {
    ClusterShelf x = new ClusterShelf(4);
    for (int node = 0; node < 4; node++) {
      x.delay(node, 0, 20);
      x.delay(node, 1, 20);
      x.delay(node, 2, 20);
    }
    Due.begin(x, 2, Due.REMOVE, 6, 9);
    Due.begin(x, 1, Due.STAT, 6, 0);
    Due.begin(x, 0, Due.STAT, 5, 0);
    Due.is("three are under way", x.about(1), 3);
    x.crash(3, 0);
    Due.is("still", x.about(1), 3);
    x.recover(3);
    Due.is("granted: 5 of node 0, then 6 of node 1", x.about(1), 3);
    int[][] due = {{1, 0, 1, 5, 1}, {2, 1, 1, 6, 1}, {2, 1, 2, 6, 0}};
    for (int i = 0; i < due.length; i++) {
      for (int what = 0; what < 5; what++) {
        Due.is("message(" + i + ", " + what + ")", x.message(i, what), due[i][what]);
      }
    }
    Due.is("node 2 waits in the row of 6", x.row(6, 2), 2);
    Due.is("alone", x.row(6, 3), 2);
    Due.is("sent", x.about(2), 6);
  }
}

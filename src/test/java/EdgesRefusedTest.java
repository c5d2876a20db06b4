import java.util.ArrayList;
import java.util.List;

/**
 * "A call that throws changes nothing; of several exceptions the one that it names first is thrown":
 * every way to be refused, on an object with all that may be under way, beside one that is never asked.
 */
public final class EdgesRefusedTest {
  private static final int MIN = Integer.MIN_VALUE;
  private static final int MAX = Integer.MAX_VALUE;
  private static final String ARGUMENT = "IllegalArgumentException";
  private static final String STATE = "IllegalStateException";
  private static final String INDEX = "IndexOutOfBoundsException";
  private static final String ELEMENT = "NoSuchElementException";
  private static final int[] NO_NODES = {-1, 4, MIN, MAX};

  private final ClusterShelf x = busy();
  private final List<Runnable> refusals = new ArrayList<>();

  public static void main(String[] args) {
    new EdgesRefusedTest().run();
    Due.end();
  }

  /** Nodes 0 and 1 have calls under way, node 0 a flush; 2 is down and joined, 3 is not joined. */
  private static ClusterShelf busy() {
    ClusterShelf x = new ClusterShelf(4);
    Due.go(x, 0, Due.MAKE, 0, 5, 1);
    Due.go(x, 0, Due.WRITE, 1, 0, 7);
    x.crash(3, 0);
    x.recover(3);
    x.crash(2, 0);
    Due.begin(x, 1, Due.LOOK, 0, 5);
    x.tick(2);
    Due.begin(x, 0, Due.STAT, 9, 0);
    Due.is("calls under way", x.result(0, 0) + x.result(1, 0), 2);
    Due.is("a flush", x.node(0, 3) > 0 ? 1 : 0, 1);
    Due.is("a message", x.about(1), 1);
    return x;
  }

  private void no(String exception, String what, Due.Act act) {
    refusals.add(() -> Due.refused(what, x, exception, act));
  }

  private void run() {
    calls();
    schedule();
    crashes();
    results();
    words();
    locks();
    for (Runnable refusal : refusals) {
      refusal.run();
    }
    // What isn't seen at once is the same, too.
    ClusterShelf twin = busy();
    Due.same("the twin", Due.seen(x), Due.seen(twin));
    for (int t = 0; t < 40; t++) {
      Due.is("tick " + t, x.tick(1), twin.tick(1));
      Due.same("tick " + t, Due.seen(x), Due.seen(twin));
    }
    Due.is("recover", x.recover(2), twin.recover(2));
    x.start(3);
    twin.start(3);
    for (int node : new int[] {0, 1, 3}) {
      Due.is("call", x.call(node, Due.WRITE, 1, 2, 3, 0), twin.call(node, Due.WRITE, 1, 2, 3, 0));
      Due.is("ticks", x.tick(9), twin.tick(9));
      Due.same("node " + node, Due.seen(x), Due.seen(twin));
    }
  }

  private void noCall(String exception, int node, int... rest) {
    String what = "call(" + node + ", " + java.util.Arrays.toString(rest) + ")";
    no(exception, what, () -> x.call(node, rest[0], rest[1], rest[2], rest[3], rest[4]));
  }

  private void calls() {
    for (int node : NO_NODES) {
      noCall(ARGUMENT, node, Due.SYNC, 0, 0, 0, 0);
      noCall(ARGUMENT, node, 15, 0, 0, 0, 0);
    }
    // All four have a state that refuses, too; the argument comes first.
    for (int node = 0; node < 4; node++) {
      noCall(ARGUMENT, node, -1, 0, 1, 1, 1);
      noCall(ARGUMENT, node, 15, 0, 1, 1, 1);
      noCall(ARGUMENT, node, Due.LOOK, 128, 1, 0, 0);
      noCall(ARGUMENT, node, Due.LOOK, 0, 0, 0, 0);
      noCall(ARGUMENT, node, Due.MAKE, 0, 1, 3, 0);
      noCall(ARGUMENT, node, Due.REMOVE, -1, 1, 0, 0);
      noCall(ARGUMENT, node, Due.LINK, 0, 1, 128, 0);
      noCall(ARGUMENT, node, Due.RENAME, 0, 1, 0, 0);
      noCall(ARGUMENT, node, Due.READ, 1, 384, 0, 0);
      noCall(ARGUMENT, node, Due.WRITE, 1, -1, 0, 0);
      noCall(ARGUMENT, node, Due.CUT, 1, 385, 0, 0);
      noCall(ARGUMENT, node, Due.ENTRY, 0, 192, 0, 0);
      noCall(ARGUMENT, node, Due.STAT, 0, 4, 0, 0);
      noCall(ARGUMENT, node, Due.ADD, 1, 384, 0, 0);
      noCall(ARGUMENT, node, Due.APPEND, 128, 0, 0, 0);
      noCall(ARGUMENT, node, Due.COUNT, -1, 0, 0, 0);
      noCall(STATE, node, Due.SYNC, 0, 0, 0, 0);
      noCall(STATE, node, Due.COUNT, 0, 0, 0, 0);
    }
  }

  private void schedule() {
    for (int node : NO_NODES) {
      no(ARGUMENT, "delay from " + node, () -> x.delay(node, 0, 20));
      no(ARGUMENT, "delay to " + node, () -> x.delay(0, node, 20));
    }
    for (int ticks : new int[] {0, 21, -1, MIN, MAX}) {
      no(ARGUMENT, "delay of " + ticks, () -> x.delay(0, 1, ticks));
      no(ARGUMENT, "delay to itself of " + ticks, () -> x.delay(0, 0, ticks));
    }
    for (int ticks : new int[] {-1, 101, MIN, MAX}) {
      no(ARGUMENT, "tick of " + ticks, () -> x.tick(ticks));
    }
  }

  private void crashes() {
    for (int node : NO_NODES) {
      no(ARGUMENT, "crash of " + node, () -> x.crash(node, 0));
      no(ARGUMENT, "recover of " + node, () -> x.recover(node));
      no(ARGUMENT, "start of " + node, () -> x.start(node));
    }
    for (int torn : new int[] {-1, 16, MIN, MAX}) {
      for (int node = 0; node < 4; node++) {
        int at = node;
        no(ARGUMENT, "crash of " + at + " torn " + torn, () -> x.crash(at, torn));
      }
    }
    no(STATE, "crash of one that is down and joined", () -> x.crash(2, 0));
    no(STATE, "crash of one that is down and not joined", () -> x.crash(3, 15));
    no(STATE, "recover of one that is up", () -> x.recover(0));
    no(STATE, "recover of one that is up, and writes", () -> x.recover(1));
    no(STATE, "recover of one that is not joined", () -> x.recover(3));
    no(STATE, "start of one that is up", () -> x.start(0));
    no(STATE, "start of one that is down and joined", () -> x.start(2));
    no(STATE, "start while another one is down and joined", () -> x.start(3));
  }

  private void results() {
    for (int node : NO_NODES) {
      no(ARGUMENT, "result of " + node, () -> x.result(node, 0));
      no(ARGUMENT, "node " + node, () -> x.node(node, 0));
    }
    for (int what : new int[] {-1, 5, MIN, MAX}) {
      no(ARGUMENT, "result " + what, () -> x.result(0, what));
    }
    for (int what : new int[] {-1, 7, MIN, MAX}) {
      no(ARGUMENT, "node, " + what, () -> x.node(0, what));
      no(ARGUMENT, "node that is down, " + what, () -> x.node(3, what));
    }
    for (int what : new int[] {-1, 10, MIN, MAX}) {
      no(ARGUMENT, "about " + what, () -> x.about(what));
      no(ARGUMENT, "history of what " + what, () -> x.history(0, what));
      no(INDEX, "history of none, what " + what, () -> x.history(-1, what));
      no(INDEX, "history behind, what " + what, () -> x.history(x.about(4), what));
    }
    for (int i : new int[] {-1, 2, 400, MIN, MAX}) {
      no(INDEX, "history " + i, () -> x.history(i, 0));
    }
  }

  private void words() {
    for (int block : new int[] {-1, 640, MIN, MAX}) {
      no(INDEX, "word of block " + block, () -> x.word(block, 0));
      no(INDEX, "cached word of block " + block, () -> x.cached(0, block, 0));
      no(INDEX, "of one that is down, too", () -> x.cached(3, block, 0));
    }
    for (int i : new int[] {-1, 16, MIN, MAX}) {
      no(INDEX, "word " + i, () -> x.word(0, i));
      no(INDEX, "word " + i + " of the last block", () -> x.word(639, i));
      no(INDEX, "cached word " + i, () -> x.cached(0, 129, i));
      no(INDEX, "word " + i + " of a block that isn't cached", () -> x.cached(0, 639, i));
    }
    for (int node : NO_NODES) {
      no(ARGUMENT, "cached of " + node, () -> x.cached(node, 129, 0));
      no(ARGUMENT, "cached of " + node + ", no such word", () -> x.cached(node, 640, 16));
    }
    no(ELEMENT, "not in its cache", () -> x.cached(0, 639, 15));
    no(ELEMENT, "down", () -> x.cached(2, 129, 0));
  }

  private void locks() {
    for (int node : NO_NODES) {
      no(ARGUMENT, "lock of " + node, () -> x.lock(node, 0, 0));
    }
    for (int r : new int[] {-1, 136, MIN, MAX}) {
      no(ARGUMENT, "lock of resource " + r, () -> x.lock(0, r, 0));
      no(ARGUMENT, "row of resource " + r, () -> x.row(r, 0));
    }
    for (int what : new int[] {-1, 5, MIN, MAX}) {
      no(ARGUMENT, "lock, " + what, () -> x.lock(0, 0, what));
    }
    for (int what : new int[] {-1, MIN}) {
      no(ARGUMENT, "row, " + what, () -> x.row(0, what));
    }
    for (int i : new int[] {-1, 1, MIN, MAX}) {
      no(INDEX, "message " + i, () -> x.message(i, 0));
      no(INDEX, "message " + i + " of no what", () -> x.message(i, 6));
    }
    for (int what : new int[] {-1, 6, MIN, MAX}) {
      no(ARGUMENT, "message of what " + what, () -> x.message(0, what));
    }
  }
}

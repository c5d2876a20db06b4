/** The first and the last value that each promise allows, and that it means what it says. */
public final class EdgesAllowedTest {
  private static final int MIN = Integer.MIN_VALUE;
  private static final int MAX = Integer.MAX_VALUE;
  private static final int NONE = ClusterShelf.NONE;

  public static void main(String[] args) {
    nodes();
    calls();
    othersDoNotMatter();
    delays();
    ticks();
    torn();
    seen();
    history();
    Due.end();
  }

  /** "So many nodes (2 if it is less, 4 if it is more)": the last node is one, the next is none. */
  private static void nodes() {
    int[][] due = {{MIN, 2}, {-1, 2}, {0, 2}, {1, 2}, {2, 2}, {3, 3}, {4, 4}, {5, 4}, {MAX, 4}};
    for (int[] pair : due) {
      ClusterShelf x = new ClusterShelf(pair[0]);
      int last = pair[1] - 1;
      Due.is("time", x.about(0), 0);
      Due.is("nodes", x.about(6), pair[1]);
      Due.is("the disk says so", x.word(0, 1), pair[1]);
      Due.is("the last one is up", x.node(last, 0), 1);
      Due.is("and joined", x.node(last, 1), 1);
      Due.iae("no further one", () -> x.node(last + 1, 0));
      Due.is("it calls", x.call(last, Due.SYNC, 0, 0, 0, 0), 1);
      Due.iae("a further one doesn't", () -> x.call(last + 1, Due.SYNC, 0, 0, 0, 0));
    }
  }

  /** The resource that a call asks for tells that it was begun, with what it has. */
  private static void asks(int mode, int kind, int... args) {
    ClusterShelf x = new ClusterShelf(2);
    String what = "kind " + kind + " of " + java.util.Arrays.toString(args);
    Due.is(what, Due.begin(x, 0, kind, args), 0);
    Due.is(what + " asks", x.message(0, 3), args[0]);
    Due.is(what + " asks for", x.message(0, 4), mode);
  }

  private static void calls() {
    int[] kinds = {0, 1, 2, 3, 4, 5, 6, 7, 8, 9, 11, 12, 13};
    int[] modes = {1, 2, 2, 2, 2, 1, 2, 2, 1, 1, 2, 2, 1};
    for (int i = 0; i < kinds.length; i++) {
      asks(modes[i], kinds[i], 0, 1, 1, 1);
      asks(modes[i], kinds[i], 127, 1, 1, 1);
    }
    for (int name : new int[] {1, -1, MIN, MAX}) {
      asks(1, Due.LOOK, 0, name);
      asks(2, Due.MAKE, 0, name, 1);
      asks(2, Due.MAKE, 0, name, 2);
      asks(2, Due.REMOVE, 0, name);
      asks(2, Due.LINK, 0, name, 0);
      asks(2, Due.LINK, 0, name, 127);
      asks(2, Due.RENAME, 0, name, 0, name);
      asks(2, Due.RENAME, 0, 1, 127, name);
      asks(2, Due.WRITE, 1, 0, name);
      asks(2, Due.ADD, 1, 383, name);
      asks(2, Due.APPEND, 1, name);
    }
    for (int place : new int[] {0, 383}) {
      asks(1, Due.READ, 1, place);
      asks(2, Due.WRITE, 1, place, 0);
      asks(2, Due.ADD, 1, place, 0);
    }
    asks(2, Due.CUT, 1, 0);
    asks(2, Due.CUT, 1, 384);
    asks(1, Due.ENTRY, 1, 0);
    asks(1, Due.ENTRY, 1, 191);
    for (int what = 0; what < 4; what++) {
      asks(1, Due.STAT, 1, what);
    }
  }

  /** "with what it has (others don't matter)". */
  private static void othersDoNotMatter() {
    int[][] calls = {
      {Due.LOOK, 0, 1}, {Due.MAKE, 0, 1, 1}, {Due.REMOVE, 0, 1}, {Due.LINK, 0, 1, 1},
      {Due.READ, 0, 1}, {Due.WRITE, 0, 1, 1}, {Due.CUT, 0, 1}, {Due.ENTRY, 0, 1}, {Due.STAT, 0, 1},
      {Due.ADD, 0, 1, 1}, {Due.APPEND, 0, 1}, {Due.COUNT, 0}, {Due.ROOM}, {Due.SYNC}
    };
    for (int[] call : calls) {
      for (int other : new int[] {MIN, -1, 0, 128, MAX}) {
        int[] all = {other, other, other, other, other};
        System.arraycopy(call, 0, all, 0, call.length);
        ClusterShelf x = new ClusterShelf(2);
        int ends = x.call(1, all[0], all[1], all[2], all[3], all[4]);
        Due.is("kind " + call[0] + " with " + other, ends, call[0] == Due.SYNC ? 1 : 0);
        x.tick(60);
        Due.is("it ends", x.about(4), 1);
        for (int what = 0; what < 5; what++) {
          Due.is("what it was given", x.history(0, 1 + what), all[what]);
        }
      }
    }
  }

  private static void delays() {
    for (int ticks : new int[] {1, 2, 19, 20}) {
      for (int to = 0; to < 2; to++) {
        ClusterShelf x = new ClusterShelf(2);
        x.delay(0, to, ticks);
        Due.begin(x, 0, Due.STAT, to, 0);
        Due.is("from 0 to " + to, x.message(0, 5), ticks);
        x.tick(ticks - 1);
        Due.is("not yet", x.message(0, 2), 0);
        x.tick(1);
        Due.is("now", x.message(0, 2), 1);
      }
    }
    ClusterShelf x = new ClusterShelf(4);
    x.delay(3, 3, 20);
    x.delay(3, 0, 7);
    Due.begin(x, 3, Due.STAT, 3, 0);
    Due.is("from the last node to itself", x.message(0, 5), 20);
    Due.begin(x, 2, Due.STAT, 3, 0);
    Due.is("others stay", x.message(1, 5), 1);
  }

  private static void ticks() {
    ClusterShelf x = new ClusterShelf(2);
    Due.begin(x, 0, Due.COUNT, 0);
    Due.is("no tick", x.tick(0), 0);
    Due.is("time", x.about(0), 0);
    Due.is("nothing comes", x.about(1), 1);
    Due.is("one", x.tick(1), 0);
    Due.is("time", x.about(0), 1);
    Due.is("a hundred", x.tick(100), 1);
    Due.is("time", x.about(0), 101);
  }

  /** "with TORN words (0 .. 15)": none, and all but one. */
  private static void torn() {
    for (int torn : new int[] {0, 1, 14, 15}) {
      ClusterShelf x = new ClusterShelf(2);
      Due.go(x, 0, Due.MAKE, 0, 5, 1);
      for (int i = 0; i < 16; i++) {
        Due.go(x, 0, Due.WRITE, 1, i, 100 + i);
      }
      Due.begin(x, 0, Due.SYNC);
      // The blocks are 128, 129, 130, 145 and 146: 146 is the last one in its place.
      x.tick(11);
      Due.is("next is", x.node(0, 6), 146);
      x.crash(0, torn);
      for (int i = 0; i < 16; i++) {
        Due.is("torn " + torn + ", word " + i, x.word(146, i), i < torn ? 100 + i : 0);
      }
    }
    ClusterShelf x = new ClusterShelf(2);
    Due.go(x, 0, Due.MAKE, 0, 5, 1);
    x.crash(0, 15);
    for (int block = 1; block < 640; block++) {
      int root = block == 128 ? 1 : block == 129 ? 2 : 0;
      Due.is("without a flush nothing is written", x.word(block, 0), root);
    }
  }

  private static void seen() {
    ClusterShelf x = new ClusterShelf(4);
    Due.is("first word", x.word(0, 0), 7177);
    Due.is("last word", x.word(639, 15), 0);
    Due.is("last lock", x.lock(3, 135, 4), 0);
    Due.is("last row", x.row(135, 0), 3);
    Due.is("a row's end", x.row(135, MAX), NONE);
    Due.is("last of result", x.result(3, 4), 0);
    Due.is("last of node", x.node(3, 6), NONE);
    Due.is("last of about", x.about(9), 0);
    Due.begin(x, 3, Due.STAT, 127, 0);
    Due.is("first of message", x.message(0, 0), 3);
    Due.is("last of message", x.message(0, 5), 1);
    x.tick(2);
    Due.is("first of history", x.history(0, 0), 3);
    Due.is("last of history", x.history(0, 9), 0);
    Due.is("cached, first word", x.cached(3, 592, 0), 0);
    Due.is("cached, last word", x.cached(3, 592, 15), 0);
  }

  /** "the first 400 are kept": in 512 calls, with ones that fault, and one that changes. */
  private static void history() {
    ClusterShelf x = new ClusterShelf(2);
    Due.go(x, 0, Due.MAKE, 0, 5, 1);
    for (int i = 1; i < 399; i++) {
      x.call(0, Due.LOOK, 0, 5 + i % 2, i, 0);
    }
    Due.ioobe("399 are there", () -> x.history(399, 0));
    Due.is("of these the last", x.history(398, 4), 398);
    x.call(0, Due.WRITE, 1, 3, 33, 0);
    x.tick(9);
    Due.is("the 400th", x.history(399, 1), Due.WRITE);
    Due.is("its fate", x.history(399, 9), 1);
    int kept = x.about(4);
    Due.is("ended", kept, 400);
    x.call(0, Due.WRITE, 1, 4, 44, 0);
    Due.is("one more", x.about(4), 401);
    Due.ioobe("isn't kept", () -> x.history(400, 0));
    Due.ioobe("of any what", () -> x.history(400, 10));
    Due.is("its result stands", x.result(0, 1), 44);
    Due.begin(x, 0, Due.SYNC);
    x.tick(100);
    Due.is("what became of the kept ones goes on", x.history(399, 9), 2);
    Due.is("and of the first", x.history(0, 9), 2);
    Due.is("faults changed nothing", x.history(398, 9), 0);
    Due.ioobe("the sync isn't kept", () -> x.history(401, 0));
  }
}

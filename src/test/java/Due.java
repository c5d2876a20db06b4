import java.util.NoSuchElementException;

/** What tests share: they tell each answer that is not due, and count it. */
final class Due {
  static final int LOOK = 0;
  static final int MAKE = 1;
  static final int REMOVE = 2;
  static final int LINK = 3;
  static final int RENAME = 4;
  static final int READ = 5;
  static final int WRITE = 6;
  static final int CUT = 7;
  static final int ENTRY = 8;
  static final int STAT = 9;
  static final int SYNC = 10;
  static final int ADD = 11;
  static final int APPEND = 12;
  static final int COUNT = 13;
  static final int ROOM = 14;

  private static int wrong;

  private Due() {}

  interface Act {
    void run();
  }

  static void is(String what, long got, long want) {
    if (got != want) {
      wrong++;
      System.out.println(what + ": answered " + got + ", due is " + want);
    }
  }

  static void iae(String what, Act act) {
    thrown(what, act, "IllegalArgumentException");
  }

  static void ise(String what, Act act) {
    thrown(what, act, "IllegalStateException");
  }

  static void ioobe(String what, Act act) {
    thrown(what, act, "IndexOutOfBoundsException");
  }

  static void nsee(String what, Act act) {
    thrown(what, act, "NoSuchElementException");
  }

  /** An act that must throw, and change nothing that is seen. */
  static void refused(String what, ClusterShelf x, String exception, Act act) {
    String before = seen(x);
    thrown(what, act, exception);
    same(what + " changes nothing", seen(x), before);
  }

  static void same(String what, String got, String want) {
    if (!got.equals(want)) {
      wrong++;
      System.out.println(what + ": what is seen is not the same");
    }
  }

  private static void thrown(String what, Act act, String want) {
    String got = "nothing";
    try {
      act.run();
    } catch (IllegalArgumentException | IllegalStateException | IndexOutOfBoundsException
        | NoSuchElementException e) {
      got = e.getClass().getSimpleName();
    }
    if (!got.equals(want)) {
      wrong++;
      System.out.println(what + ": threw " + got + ", due is " + want);
    }
  }

  /** A call, with ticks until it has ended: its value or its fault. */
  static int run(ClusterShelf x, int node, int kind, int... args) {
    if (begin(x, node, kind, args) == 0) {
      for (int t = 0; t < 1000 && x.result(node, 0) == 1; t++) {
        x.tick(1);
      }
    }
    return x.result(node, 1);
  }

  static int begin(ClusterShelf x, int node, int kind, int... args) {
    int[] all = new int[4];
    System.arraycopy(args, 0, all, 0, args.length);
    return x.call(node, kind, all[0], all[1], all[2], all[3]);
  }

  /** A call with ticks enough for it, in two calls at most: its value or its fault. */
  static int go(ClusterShelf x, int node, int kind, int... args) {
    if (begin(x, node, kind, args) == 0) {
      x.tick(100);
    }
    return x.result(node, 1);
  }

  /** A call that must come to this value. */
  static void done(String what, ClusterShelf x, int want, int node, int kind, int... args) {
    int got = run(x, node, kind, args);
    is(what, got, want);
    is(what + " stands", x.result(node, 0), 2);
  }

  /** A call that must end with this fault. */
  static void fault(String what, ClusterShelf x, int want, int node, int kind, int... args) {
    int got = run(x, node, kind, args);
    is(what, got, want);
    is(what + " stands", x.result(node, 0), 3);
  }

  /** Ticks until no message and no flush is under way. */
  static void rest(ClusterShelf x) {
    for (int t = 0; t < 2000 && isBusy(x); t++) {
      x.tick(1);
    }
  }

  private static boolean isBusy(ClusterShelf x) {
    boolean busy = x.about(1) > 0;
    for (int i = 0; i < x.about(6); i++) {
      busy = busy || x.node(i, 3) > 0;
    }
    return busy;
  }

  /** All that is seen of an object, as one text. */
  static String seen(ClusterShelf x) {
    StringBuilder all = new StringBuilder();
    int nodes = x.about(6);
    for (int what = 0; what < 10; what++) {
      all.append(x.about(what)).append(' ');
    }
    for (int i = 0; i < x.about(1); i++) {
      for (int what = 0; what < 6; what++) {
        all.append(x.message(i, what)).append(' ');
      }
    }
    for (int i = 0; i < Math.min(400, x.about(4)); i++) {
      for (int what = 0; what < 10; what++) {
        all.append(x.history(i, what)).append(' ');
      }
    }
    for (int r = 0; r < 136; r++) {
      for (int what = 0; what < 2 + 2 * (nodes + 1); what++) {
        all.append(x.row(r, what)).append(' ');
      }
    }
    for (int node = 0; node < nodes; node++) {
      seeNode(all, x, node);
    }
    for (int block = 0; block < 640; block++) {
      for (int i = 0; i < 16; i++) {
        all.append(x.word(block, i)).append(' ');
      }
    }
    return all.toString();
  }

  private static void seeNode(StringBuilder all, ClusterShelf x, int node) {
    for (int what = 0; what < 7; what++) {
      all.append(x.node(node, what)).append(' ');
    }
    for (int what = 0; what < 5; what++) {
      all.append(x.result(node, what)).append(' ');
      for (int r = 0; r < 136; r++) {
        all.append(x.lock(node, r, what)).append(' ');
      }
    }
    for (int block = 0; block < 640; block++) {
      if (isCached(x, node, block)) {
        all.append("block ").append(block).append(' ');
        for (int i = 0; i < 16; i++) {
          all.append(x.cached(node, block, i)).append(' ');
        }
      }
    }
  }

  static boolean isCached(ClusterShelf x, int node, int block) {
    try {
      x.cached(node, block, 0);
      return true;
    } catch (NoSuchElementException e) {
      return false;
    }
  }

  static int inodeBlock(int k) {
    return 129 + 64 * (k / 16) + k % 16;
  }

  static void end() {
    if (wrong > 0) {
      System.out.println(wrong + " answers are not as due");
      System.exit(1);
    }
  }
}

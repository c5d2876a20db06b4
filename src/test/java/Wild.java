import java.util.NoSuchElementException;
import java.util.Random;

/**
 * Calls with whatever arguments beside the model: each must throw what the public face says, or
 * nothing. What is allowed is done on the model, too.
 */
final class Wild {
  private static final String NOTHING = "nothing";
  private static final String ARGUMENT = "IllegalArgumentException";
  private static final String STATE = "IllegalStateException";
  private static final String INDEX = "IndexOutOfBoundsException";
  private static final String ELEMENT = "NoSuchElementException";
  private static final int[] NUMBERS = {
    Integer.MIN_VALUE, -2, -1, 0, 1, 2, 3, 4, 5, 6, 7, 9, 10, 14, 15, 16, 20, 21, 100, 101, 127, 128,
    135, 136, 191, 192, 383, 384, 385, 399, 400, 639, 640, Integer.MAX_VALUE
  };

  private final Random random;
  private final ClusterShelf x;
  private final Model model;

  Wild(Random random, ClusterShelf x, Model model) {
    this.random = random;
    this.x = x;
    this.model = model;
  }

  private interface Act {
    void run();
  }

  private int number() {
    return NUMBERS[random.nextInt(NUMBERS.length)];
  }

  private int nodeOrNot() {
    return random.nextInt(4) == 0 ? number() : random.nextInt(4);
  }

  /** One call of any method: what it was. */
  String step(String name) {
    switch (random.nextInt(15)) {
      case 0:
      case 1: return call(name);
      case 2: return delay(name);
      case 3: return tick(name);
      case 4: return crash(name);
      case 5: return recover(name);
      case 6: return start(name);
      default: return look(name);
    }
  }

  private String thrown(String name, String what, String due, Act act) {
    String got = NOTHING;
    try {
      act.run();
    } catch (IllegalArgumentException | IllegalStateException | IndexOutOfBoundsException
        | NoSuchElementException e) {
      got = e.getClass().getSimpleName();
    }
    Due.same(name + " " + what + " throws " + got + ", due is " + due, got, due);
    return "wild " + what;
  }

  private boolean isNode(int node) {
    return node >= 0 && node < model.nodes.length;
  }

  private static boolean isWithin(int value, int last) {
    return value >= 0 && value <= last;
  }

  // ---- the schedule

  private String call(String name) {
    int node = nodeOrNot();
    int kind = random.nextInt(8) == 0 ? number() : random.nextInt(15);
    int[] g = {number(), number(), number(), number()};
    String due = NOTHING;
    if (!isNode(node) || !isGiven(kind, g)) {
      due = ARGUMENT;
    } else if (!model.nodes[node].isUp || isBusy(node)) {
      due = STATE;
    } else {
      model.call(node, kind, g);
    }
    String what = "call(" + node + ", " + kind + ", " + g[0] + ", " + g[1] + ", " + g[2] + ", " + g[3];
    return thrown(name, what + ")", due, () -> x.call(node, kind, g[0], g[1], g[2], g[3]));
  }

  private boolean isBusy(int node) {
    Model.Call call = model.nodes[node].call;
    return call != null && call.isUnderWay();
  }

  private static boolean isGiven(int kind, int[] g) {
    if (kind == Due.SYNC || kind == Due.ROOM) {
      return true;
    }
    if (!isWithin(kind, Due.ROOM) || !isWithin(g[0], 127)) {
      return false;
    }
    switch (kind) {
      case Due.LOOK:
      case Due.REMOVE: return g[1] != 0;
      case Due.MAKE: return g[1] != 0 && (g[2] == 1 || g[2] == 2);
      case Due.LINK: return g[1] != 0 && isWithin(g[2], 127);
      case Due.RENAME: return g[1] != 0 && isWithin(g[2], 127) && g[3] != 0;
      case Due.READ:
      case Due.WRITE:
      case Due.ADD: return isWithin(g[1], 383);
      case Due.CUT: return isWithin(g[1], 384);
      case Due.ENTRY: return isWithin(g[1], 191);
      case Due.STAT: return isWithin(g[1], 3);
      default: return true;
    }
  }

  private String delay(String name) {
    int from = nodeOrNot();
    int to = nodeOrNot();
    int ticks = number();
    boolean fits = isNode(from) && isNode(to) && ticks >= 1 && ticks <= 20;
    if (fits) {
      model.delays[from][to] = ticks;
    }
    return thrown(name, "delay(" + from + ", " + to + ", " + ticks + ")", fits ? NOTHING : ARGUMENT,
        () -> x.delay(from, to, ticks));
  }

  private String tick(String name) {
    int n = number();
    boolean fits = isWithin(n, 100);
    if (fits) {
      model.tick(n);
    }
    return thrown(name, "tick(" + n + ")", fits ? NOTHING : ARGUMENT, () -> x.tick(n));
  }

  private String crash(String name) {
    int node = nodeOrNot();
    int torn = number();
    String due = NOTHING;
    if (!isNode(node) || !isWithin(torn, 15)) {
      due = ARGUMENT;
    } else if (!model.nodes[node].isUp) {
      due = STATE;
    } else {
      model.crash(node, torn);
    }
    return thrown(name, "crash(" + node + ", " + torn + ")", due, () -> x.crash(node, torn));
  }

  private String recover(String name) {
    int node = nodeOrNot();
    String due = NOTHING;
    if (!isNode(node)) {
      due = ARGUMENT;
    } else if (model.nodes[node].isUp || !model.nodes[node].isJoined) {
      due = STATE;
    } else {
      model.recover();
    }
    return thrown(name, "recover(" + node + ")", due, () -> x.recover(node));
  }

  private String start(String name) {
    int node = nodeOrNot();
    boolean awaits = false;
    for (Model.Node other : model.nodes) {
      awaits = awaits || !other.isUp && other.isJoined;
    }
    String due = NOTHING;
    if (!isNode(node)) {
      due = ARGUMENT;
    } else if (model.nodes[node].isUp || model.nodes[node].isJoined || awaits) {
      due = STATE;
    } else {
      model.start(node);
    }
    return thrown(name, "start(" + node + ")", due, () -> x.start(node));
  }

  // ---- what only looks

  private String look(String name) {
    int a = random.nextBoolean() ? nodeOrNot() : number();
    int b = number();
    int c = number();
    String what = "(" + a + ", " + b + ", " + c + ")";
    switch (random.nextInt(9)) {
      case 0: return thrown(name, "result" + what, of(isNode(a) && isWithin(b, 4)), () -> x.result(a, b));
      case 1: return thrown(name, "history" + what, of(a, kept(), b, 9), () -> x.history(a, b));
      case 2: return thrown(name, "word" + what, isWord(a, b) ? NOTHING : INDEX, () -> x.word(a, b));
      case 3: return thrown(name, "cached" + what, cached(a, b, c), () -> x.cached(a, b, c));
      case 4:
        return thrown(name, "lock" + what, of(isNode(a) && isWithin(b, 135) && isWithin(c, 4)),
            () -> x.lock(a, b, c));
      case 5: return thrown(name, "row" + what, of(isWithin(a, 135) && b >= 0), () -> x.row(a, b));
      case 6:
        return thrown(name, "message" + what, of(a, model.messages.size(), b, 5),
            () -> x.message(a, b));
      case 7: return thrown(name, "node" + what, of(isNode(a) && isWithin(b, 6)), () -> x.node(a, b));
      default: return thrown(name, "about" + what, of(isWithin(a, 9)), () -> x.about(a));
    }
  }

  private int kept() {
    return Math.min(400, model.history.size());
  }

  private static String of(boolean fits) {
    return fits ? NOTHING : ARGUMENT;
  }

  private static String of(int i, int count, int what, int last) {
    return !isWithin(i, count - 1) ? INDEX : of(isWithin(what, last));
  }

  private static boolean isWord(int block, int i) {
    return isWithin(block, 639) && isWithin(i, 15);
  }

  private String cached(int node, int block, int i) {
    if (!isNode(node)) {
      return ARGUMENT;
    }
    if (!isWord(block, i)) {
      return INDEX;
    }
    return model.nodes[node].cache.containsKey(block) ? NOTHING : ELEMENT;
  }
}

import java.util.ArrayList;
import java.util.List;
import java.util.Random;

/**
 * Runs of many kinds beside the model: after each call all that is seen must be the same. The seeds
 * are fixed, so each run is always the same.
 */
public final class ModelTest {
  private static final int RUNS = 96;
  private static final int STEPS = 500;
  /** How often each kind of call is begun, from LOOK to ROOM, by the theme of a run. */
  private static final int[][] THEMES = {
    {4, 8, 4, 4, 4, 4, 6, 4, 4, 4, 4, 4, 4, 4, 4},
    {4, 20, 8, 8, 8, 0, 2, 0, 4, 2, 1, 0, 0, 4, 0},
    {0, 3, 1, 0, 0, 6, 16, 8, 0, 6, 1, 8, 8, 0, 1},
    {0, 30, 0, 20, 2, 0, 30, 0, 0, 1, 0, 0, 4, 1, 0},
    {0, 4, 1, 0, 0, 0, 60, 2, 0, 1, 0, 8, 8, 0, 0},
    {0, 60, 1, 30, 1, 0, 2, 0, 0, 1, 0, 0, 1, 1, 0},
  };

  private final Random random;
  private final ClusterShelf x;
  private final Model model;
  private final int nodes;
  private final String name;
  private final int[] theme;
  private final int names;
  private final int patience;
  private final int crashes;
  private final int hurry;
  /** Of ten calls so many are of node 0. */
  private final int lead;
  private final Wild wild;

  private ModelTest(int run) {
    random = new Random(run * 31L + 5);
    nodes = 2 + run % 3;
    x = new ClusterShelf(nodes);
    model = new Model(nodes);
    name = "run " + run;
    theme = THEMES[run % THEMES.length];
    names = oneOf(3, 9, 40, 4000);
    patience = oneOf(2, 8, 30, 90);
    crashes = oneOf(0, 0, 25, 80);
    hurry = random.nextInt(3);
    lead = oneOf(0, 0, 5, 9);
    wild = new Wild(random, x, model);
  }

  private int oneOf(int... choices) {
    return choices[random.nextInt(choices.length)];
  }

  public static void main(String[] args) {
    int first = args.length > 0 ? Integer.parseInt(args[0]) : 0;
    int end = args.length > 1 ? Integer.parseInt(args[1]) : RUNS;
    int steps = args.length > 2 ? Integer.parseInt(args[2]) : STEPS;
    for (int run = first; run < end; run++) {
      new ModelTest(run).go(steps);
    }
    Due.end();
  }

  private void go(int steps) {
    for (int step = 0; step < steps; step++) {
      String what = name + " step " + step + ": " + step();
      if (!new Seen(x, model, what).isSame()) {
        return;
      }
    }
  }

  // ---- what a step does

  private String step() {
    if (random.nextInt(20) == 0) {
      return wild.step(name);
    }
    int node = random.nextInt(10) < lead ? 0 : random.nextInt(nodes);
    if (!model.nodes[node].isUp) {
      return raise(node);
    }
    if (crashes > 0 && random.nextInt(crashes) == 0) {
      int torn = random.nextInt(16);
      x.crash(node, torn);
      model.crash(node, torn);
      return "crash " + node + " torn " + torn;
    }
    if (random.nextInt(50) == 0) {
      int to = random.nextInt(nodes);
      int ticks = 1 + random.nextInt(oneOf(4, 4, 4, 20));
      x.delay(node, to, ticks);
      model.delays[node][to] = ticks;
      return "delay " + node + " " + to + " " + ticks;
    }
    Model.Call latest = model.nodes[node].call;
    if ((latest == null || !latest.isUnderWay()) && random.nextInt(6) >= hurry) {
      return begin(node);
    }
    int n = random.nextInt(patience) + random.nextInt(2);
    int want = model.tick(n);
    Due.is(name + " tick " + n, x.tick(n), want);
    return "tick " + n;
  }

  private String raise(int node) {
    if (model.nodes[node].isJoined) {
      Due.is(name + " recover " + node, x.recover(node), model.recover());
      return "recover " + node;
    }
    for (Model.Node other : model.nodes) {
      if (!other.isUp && other.isJoined) {
        return "nothing";
      }
    }
    x.start(node);
    model.start(node);
    return "start " + node;
  }

  private String begin(int node) {
    int kind = kind();
    int[] g = given(kind);
    boolean want = model.call(node, kind, g);
    String what = "call " + node + " " + kind + " " + g[0] + " " + g[1] + " " + g[2] + " " + g[3];
    Due.is(name + " " + what, x.call(node, kind, g[0], g[1], g[2], g[3]), want ? 1 : 0);
    return what;
  }

  private int kind() {
    int all = 0;
    for (int weight : theme) {
      all += weight;
    }
    int at = random.nextInt(all);
    int kind = 0;
    while (at >= theme[kind]) {
      at -= theme[kind];
      kind++;
    }
    return kind;
  }

  private int[] given(int kind) {
    int file = inode(1);
    int directory = inode(2);
    int free = random.nextInt();
    int place = oneOf(random.nextInt(384), random.nextInt(40), 112 + random.nextInt(40));
    switch (kind) {
      case Due.MAKE: return new int[] {directory, entry(), oneOf(1, 1, 1, 2), free};
      case Due.LINK: return new int[] {directory, entry(), file, free};
      case Due.RENAME: return rename(directory);
      case Due.READ:
      case Due.WRITE:
      case Due.ADD: return new int[] {file, place, free, free};
      case Due.CUT: return new int[] {file, oneOf(place, place, 384 - place), free, free};
      case Due.ENTRY: return new int[] {directory, random.nextInt(oneOf(4, 192)), free, free};
      case Due.STAT: return new int[] {oneOf(file, directory), random.nextInt(4), free, free};
      case Due.APPEND: return new int[] {file, free, free, free};
      case Due.SYNC:
      case Due.ROOM: return new int[] {free, free, free, free};
      default: return new int[] {directory, entryOf(directory), free, free};
    }
  }

  private int entry() {
    int entry = 1 + random.nextInt(names);
    return random.nextInt(9) == 0 ? -entry : entry;
  }

  /** The name of an entry that is there, or any name. */
  private int entryOf(int directory) {
    int[] inode = peek(Due.inodeBlock(directory));
    int block = inode[3 + random.nextInt(1 + Math.min(7, inode[2] / 16))];
    int there = block == 0 ? 0 : peek(block)[2 * random.nextInt(8)];
    return there == 0 || random.nextInt(4) == 0 ? entry() : there;
  }

  private int[] rename(int directory) {
    int from = entryOf(directory);
    return new int[] {directory, from, oneOf(directory, inode(2)), oneOf(entry(), entry(), from)};
  }

  /** An inode that is of a kind by what a node or the disk has, or, now and then, any one. */
  private int inode(int kind) {
    List<Integer> fitting = new ArrayList<>();
    for (int k = 0; k < 128; k++) {
      if (peek(Due.inodeBlock(k))[0] == kind) {
        fitting.add(k);
      }
    }
    if (fitting.isEmpty() || random.nextInt(20) == 0) {
      return oneOf(random.nextInt(128), random.nextInt(6));
    }
    return fitting.get(random.nextInt(random.nextBoolean() ? 1 + fitting.size() / 4 : fitting.size()));
  }

  /** A block as a node has it, or else the disk. */
  private int[] peek(int block) {
    for (Model.Node node : model.nodes) {
      if (node.cache.containsKey(block)) {
        return node.cache.get(block);
      }
    }
    return model.disk[block];
  }
}

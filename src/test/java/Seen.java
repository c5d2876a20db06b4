import java.util.Arrays;
import java.util.Map;

/** All that is seen of an object, beside what the model has. */
final class Seen {
  private final ClusterShelf x;
  private final Model model;
  private final String name;
  private boolean same = true;

  Seen(ClusterShelf x, Model model, String name) {
    this.x = x;
    this.model = model;
    this.name = name;
  }

  boolean isSame() {
    world();
    history();
    messages();
    for (Model.Node node : model.nodes) {
      result(node);
      node(node);
      locks(node);
      cache(node);
    }
    for (int r = 0; r < Model.RESOURCES; r++) {
      row(r);
    }
    for (int block = 0; block < 640; block++) {
      for (int i = 0; i < 16; i++) {
        check("word", block, i, x.word(block, i), model.disk[block][i]);
      }
    }
    return same;
  }

  private void check(String what, int a, int b, int got, int want) {
    if (got != want) {
      same = false;
      Due.is(name + ": " + what + "(" + a + ", " + b + ")", got, want);
    }
  }

  private void world() {
    int data = 0;
    int inodes = 0;
    for (int g = 0; g < 8; g++) {
      int[] map = model.disk[128 + 64 * g];
      data += Integer.bitCount(map[1]) + Integer.bitCount(map[2]);
      inodes += Integer.bitCount(map[0]);
    }
    int[] due = {model.time, model.messages.size(), model.sent, model.writes, model.ended, model.lost,
        model.nodes.length, data, inodes, ModelWhole.look(model)};
    for (int what = 0; what < 10; what++) {
      check("about", what, 0, x.about(what), due[what]);
    }
  }

  private void history() {
    int kept = Math.min(400, model.history.size());
    for (int i = 0; i < kept; i++) {
      Model.Call c = model.history.get(i);
      int[] due = {c.node, c.kind, c.given[0], c.given[1], c.given[2], c.given[3], c.status, c.value,
          c.over, c.fate};
      for (int what = 0; what < 10; what++) {
        check("history", i, what, x.history(i, what), due[what]);
      }
    }
    boolean more = true;
    try {
      x.history(kept, 0);
    } catch (IndexOutOfBoundsException e) {
      more = false;
    }
    check("history behind the last", kept, 0, more ? 1 : 0, 0);
  }

  private void messages() {
    for (int i = 0; i < model.messages.size() && i < x.about(1); i++) {
      Model.Message m = model.messages.get(i);
      int[] due = {m.from(), m.to(), m.kind(), m.resource(), m.mode(), m.comes()};
      for (int what = 0; what < 6; what++) {
        check("message", i, what, x.message(i, what), due[what]);
      }
    }
  }

  private void result(Model.Node node) {
    int[] due = new int[5];
    Model.Call call = node.call;
    if (call != null) {
      due[0] = call.status;
      due[1] = call.value;
      due[2] = (call.isUnderWay() ? model.time : call.over) - call.begun;
      due[3] = call.tries;
      due[4] = call.list.size();
    }
    for (int what = 0; what < 5; what++) {
      check("result", node.id, what, x.result(node.id, what), due[what]);
    }
  }

  private void node(Model.Node node) {
    boolean flushes = node.flush != null;
    int[] due = {node.isUp ? 1 : 0, node.isJoined ? 1 : 0, node.log.size(),
        flushes ? node.flush.writes.size() : 0, node.flushes, node.cache.size(),
        flushes ? node.flush.writes.peek().block() : Model.NONE};
    for (int what = 0; what < 7; what++) {
      check("node", node.id, what, x.node(node.id, what), due[what]);
    }
  }

  private void locks(Model.Node node) {
    boolean calls = node.call != null && node.call.isUnderWay();
    for (int r = 0; r < Model.RESOURCES; r++) {
      int listed = calls ? node.call.list.getOrDefault(r, 0) : 0;
      int[] due = {node.holds[r], node.asked[r], node.back[r], listed, model.rights[r].gave[node.id]};
      for (int what = 0; what < 5; what++) {
        check("lock of node " + node.id, r, what, x.lock(node.id, r, what), due[what]);
      }
    }
  }

  /** The counts of blocks are checked elsewhere: no block is left over if these are there. */
  private void cache(Model.Node node) {
    for (Map.Entry<Integer, int[]> block : node.cache.entrySet()) {
      if (!Due.isCached(x, node.id, block.getKey())) {
        check("node " + node.id + " has the block in its cache", block.getKey(), 0, 0, 1);
        continue;
      }
      for (int i = 0; i < 16; i++) {
        int got = x.cached(node.id, block.getKey(), i);
        check("cached of node " + node.id, block.getKey(), i, got, block.getValue()[i]);
      }
    }
  }

  private void row(int r) {
    int[] due = new int[12];
    Arrays.fill(due, Model.NONE);
    due[0] = model.master(r);
    due[1] = model.rights[r].row.size();
    for (int i = 0; i < due[1]; i++) {
      due[2 + 2 * i] = model.rights[r].row.get(i).node();
      due[3 + 2 * i] = model.rights[r].row.get(i).mode();
    }
    for (int what = 0; what < 12; what++) {
      check("row", r, what, x.row(r, what), due[what]);
    }
  }
}

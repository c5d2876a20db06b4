import java.util.ArrayDeque;
import java.util.Deque;
import java.util.HashMap;
import java.util.Map;

/** Section 6 of the document, on a copy of the model's disk. */
final class ModelWhole {
  private final int[][] disk = new int[640][];
  /** How many entries name an inode. */
  private final Map<Integer, Integer> named = new HashMap<>();
  private final Map<Integer, Integer> owners = new HashMap<>();
  private boolean namesNothing;

  private ModelWhole(Model model) {
    for (int block = 0; block < 640; block++) {
      disk[block] = model.disk[block].clone();
    }
    for (Model.Node node : model.nodes) {
      if (node.isJoined) {
        Model.replay(disk, node.id);
      }
    }
  }

  static int look(Model model) {
    return new ModelWhole(model).look();
  }

  private int inode(int k, int w) {
    return disk[Due.inodeBlock(k)][w];
  }

  private int block(int k, int place) {
    return place < 8 ? inode(k, 3 + place) : inode(k, 11) == 0 ? 0 : disk[inode(k, 11)][place - 8];
  }

  private int word(int k, int i) {
    return block(k, i / 16) == 0 ? 0 : disk[block(k, i / 16)][i % 16];
  }

  private void reach() {
    Deque<Integer> directories = new ArrayDeque<>();
    directories.add(0);
    while (!directories.isEmpty()) {
      int d = directories.remove();
      for (int i = 0; i < inode(d, 2); i += 2) {
        int k = word(d, i + 1);
        if (word(d, i) == 0) {
          continue;
        }
        if (k < 0 || k > 127 || inode(k, 0) == 0) {
          namesNothing = true;
        } else if (named.merge(k, 1, Integer::sum) == 1 && inode(k, 0) == 2 && k != 0) {
          directories.add(k);
        }
      }
    }
  }

  private int look() {
    reach();
    if (namesNothing) {
      return 1;
    }
    boolean twice = named.containsKey(0);
    boolean apart = false;
    boolean links = inode(0, 1) != 1;
    for (int k = 1; k < 128; k++) {
      int names = named.getOrDefault(k, 0);
      twice = twice || inode(k, 0) == 2 && names > 1;
      apart = apart || inode(k, 0) != 0 && names == 0;
      links = links || inode(k, 0) != 0 && inode(k, 1) != names;
    }
    if (twice || apart || links) {
      return twice ? 2 : apart ? 3 : 4;
    }
    return lookAtBlocks();
  }

  private int lookAtBlocks() {
    int[][] maps = new int[8][3];
    for (int k = 0; k < 128; k++) {
      if (inode(k, 0) != 0) {
        maps[k / 16][0] |= 1 << k % 16;
        owners.merge(inode(k, 11), 1, Integer::sum);
        for (int place = 0; place < 24; place++) {
          owners.merge(block(k, place), 1, Integer::sum);
        }
      }
    }
    owners.remove(0);
    for (int block : owners.keySet()) {
      int j = (block - 128) % 64 - 17;
      if (block < 128 || block >= 640 || j < 0 || owners.get(block) > 1) {
        return 5;
      }
      maps[(block - 128) / 64][j < 32 ? 1 : 2] |= 1 << j % 32;
    }
    for (int g = 0; g < 8; g++) {
      for (int w = 0; w < 3; w++) {
        if (disk[128 + 64 * g][w] != maps[g][w]) {
          return 6;
        }
      }
    }
    return 0;
  }
}

/** Section 1: the sizes, at their first and last places. */
public final class Edges1DiskTest {
  public static void main(String[] args) {
    for (int node = 0; node < 4; node++) {
      journal(node);
    }
    bitsOfBlocks();
    bitsOfInodes();
    everyBlock();
    placesOfAFile();
    hole();
    Due.end();
  }

  /** "blocks 1 + 24 i and the next 23: HEAD, TABLE, 16 IMAGES (six stay 0)", with 16 blocks in it. */
  private static void journal(int node) {
    ClusterShelf x = new ClusterShelf(4);
    Due.go(x, node, Due.MAKE, 0, 5, 1);
    for (int place = 0; place < 11; place++) {
      Due.go(x, node, Due.WRITE, 1, 16 * place, 100 + place);
    }
    Due.is("log", x.node(node, 2), 16);
    Due.begin(x, node, Due.SYNC);
    Due.is("16 images, table, head, 16 blocks, head", x.node(node, 3), 35);
    int head = 1 + 24 * node;
    int[] blocks = {128, 129, 130, 145, 146, 147, 148, 149, 150, 151, 152, 153, 154, 155, 156, 157};
    for (int write = 0; write < 35; write++) {
      int want = write < 16 ? head + 2 + write : write == 16 ? head + 1 : head;
      if (write >= 18 && write < 34) {
        want = blocks[write - 18];
      }
      Due.is("write " + write, x.node(node, 6), want);
      x.tick(1);
    }
    Due.is("flushes", x.word(head, 0), 1);
    Due.is("blocks", x.word(head, 1), 16);
    Due.is("over", x.word(head, 2), 0);
    for (int j = 0; j < 16; j++) {
      Due.is("table " + j, x.word(head + 1, j), blocks[j]);
      for (int w = 0; w < 16; w++) {
        Due.is("image " + j, x.word(head + 2 + j, w), x.word(blocks[j], w));
      }
    }
    for (int block = 1; block < 128; block++) {
      if (block < head || block > head + 17) {
        for (int w = 0; w < 16; w++) {
          Due.is("block " + block + " stays 0", x.word(block, w), 0);
        }
      }
    }
  }

  private static void map(String what, ClusterShelf x, int block, int w0, int w1, int w2) {
    int[] due = {w0, w1, w2};
    for (int w = 0; w < 16; w++) {
      Due.is(what + ": word " + w, x.cached(0, block, w), w < 3 ? due[w] : 0);
    }
  }

  /** "in words 1 and 2 a bit j (j - 32) for each data block j": 0, 31, 32 and 46. */
  private static void bitsOfBlocks() {
    ClusterShelf x = new ClusterShelf(2);
    Due.go(x, 0, Due.MAKE, 0, 5, 1);
    map("the root's block", x, 128, 3, 1, 0);
    Due.is("it is the first one", x.cached(0, 129, 3), 145);
    Due.go(x, 0, Due.MAKE, 0, 6, 1);
    for (int place = 0; place < 24; place++) {
      Due.go(x, 0, Due.WRITE, 1, 16 * place, 1);
    }
    for (int place = 0; place < 5; place++) {
      Due.go(x, 0, Due.WRITE, 2, 16 * place, 1);
    }
    map("data blocks 0 .. 30", x, 128, 7, Integer.MAX_VALUE, 0);
    Due.go(x, 0, Due.WRITE, 2, 16 * 5, 1);
    map("data block 31", x, 128, 7, -1, 0);
    Due.is("its block", x.cached(0, 131, 8), 145 + 31);
    Due.go(x, 0, Due.WRITE, 2, 16 * 6, 1);
    map("data block 32", x, 128, 7, -1, 1);
    Due.is("its block", x.cached(0, 131, 9), 145 + 32);
    for (int place = 7; place < 20; place++) {
      Due.go(x, 0, Due.WRITE, 2, 16 * place, 1);
    }
    map("data block 46", x, 128, 7, -1, 32767);
    int index = x.cached(0, 131, 11);
    Due.is("its block is the group's last", x.cached(0, index, 11), 191);
    Due.go(x, 0, Due.WRITE, 2, 16 * 20, 1);
    map("no 47th", x, 128, 7, -1, 32767);
    map("but one of group 1", x, 192, 0, 1, 0);
    Due.is("its block", x.cached(0, index, 12), 192 + 17);
    Due.done("free", x, 376 - 48, 0, Due.ROOM);
  }

  /** "word 0 a bit i for each inode i of the group"; "INODE k is block 129 + 64 (k / 16) + k % 16". */
  private static void bitsOfInodes() {
    ClusterShelf x = new ClusterShelf(2);
    for (int k = 1; k < 128; k++) {
      Due.go(x, 0, Due.MAKE, 0, k, 1 + k % 2);
      Due.is("inode", x.result(0, 1), k);
      if (k % 16 == 0 || k % 16 == 15) {
        int block = 129 + 64 * (k / 16) + k % 16;
        int map = 128 + 64 * (k / 16);
        Due.is("kind of " + k, x.cached(0, block, 0), 1 + k % 2);
        Due.is("links of " + k, x.cached(0, block, 1), 1);
        Due.is("bits with " + k, x.cached(0, map, 0), k % 16 == 0 ? 1 : 65535);
      }
    }
    Due.is("the last one is block 592", x.cached(0, 592, 0), 2);
    Due.fault("no 128th", x, -7, 0, Due.MAKE, 0, 128, 1);
    Due.done("127 entries", x, 127, 0, Due.COUNT, 0);
    Due.go(x, 0, Due.SYNC);
    Due.is("all are used", x.about(8), 128);
    Due.is("about(9)", x.about(9), 0);
  }

  /** 8 groups of 47 data blocks: all 376, the last of which is block 639. */
  private static void everyBlock() {
    ClusterShelf x = new ClusterShelf(2);
    for (int k = 1; k <= 15; k++) {
      Due.go(x, 0, Due.MAKE, 0, k, 1);
    }
    // The root has two blocks; a whole file has 25.
    int left = 376 - 2;
    for (int k = 1; k <= 15; k++) {
      for (int place = 23; place >= 0 && left > 0; place--) {
        Due.begin(x, 0, Due.WRITE, k, 16 * place + 15, 16 * k + place);
        left -= place == 23 ? 2 : 1;
        if (x.result(0, 0) == 1) {
          x.tick(100);
        }
      }
    }
    // File 15 has its index and 23 blocks: its first words have none.
    Due.fault("none is left", x, -7, 0, Due.WRITE, 15, 0, 1);
    Due.is("its own map and all others", x.result(0, 4), 9);
    Due.done("free", x, 0, 0, Due.ROOM);
    Due.go(x, 0, Due.SYNC);
    Due.is("used", x.about(7), 376);
    Due.is("the last one", x.word(639, 15), 16 * 15 + 1);
    for (int g = 0; g < 8; g++) {
      Due.is("map " + g, x.word(128 + 64 * g, 1), -1);
      Due.is("map " + g, x.word(128 + 64 * g, 2), 32767);
    }
    Due.is("about(9)", x.about(9), 0);
    Due.done("one goes", x, 384, 0, Due.CUT, 15, 368);
    Due.done("it is free", x, 1, 0, Due.ROOM);
    Due.done("and taken again", x, 5, 0, Due.WRITE, 15, 0, 5);
    Due.fault("none again", x, -7, 0, Due.ADD, 15, 383, 1);
  }

  /** "3 .. 10 the blocks of its words .. up to 127, 11 its INDEX .. of its words 128 .. 143 and so on". */
  private static void placesOfAFile() {
    int[] words = {0, 15, 16, 111, 112, 127, 128, 143, 144, 367, 368, 383};
    for (int word : words) {
      ClusterShelf x = new ClusterShelf(2);
      Due.go(x, 0, Due.MAKE, 0, 5, 1);
      Due.done("write of word " + word, x, 9, 0, Due.WRITE, 1, word, 9);
      Due.go(x, 0, Due.SYNC);
      for (int w = 3; w < 16; w++) {
        int want = word < 128 && w == 3 + word / 16 ? 146 : 0;
        if (word >= 128 && w == 11) {
          want = 146;
        }
        Due.is("word " + word + ", place " + w, x.word(130, w), want);
      }
      if (word >= 128) {
        for (int w = 0; w < 16; w++) {
          Due.is("its index " + w, x.word(146, w), w == word / 16 - 8 ? 147 : 0);
        }
      }
      int block = word < 128 ? 146 : 147;
      for (int w = 0; w < 16; w++) {
        Due.is("its block " + w, x.word(block, w), w == word % 16 ? 9 : 0);
      }
      Due.is("size", x.word(130, 2), word + 1);
      Due.done("read", x, 9, 1, Due.READ, 1, word);
      Due.done("blocks", x, word < 128 ? 1 : 2, 1, Due.STAT, 1, 3);
      if (word < 383) {
        Due.fault("behind", x, -10, 1, Due.READ, 1, word + 1);
      }
    }
  }

  /** "(0: no such block; its words are 0 then)". */
  private static void hole() {
    ClusterShelf x = new ClusterShelf(2);
    Due.go(x, 0, Due.MAKE, 0, 5, 1);
    Due.done("the last word", x, 4, 0, Due.WRITE, 1, 383, 4);
    for (int word : new int[] {0, 127, 128, 367, 368, 382}) {
      Due.done("word " + word, x, 0, 0, Due.READ, 1, word);
    }
    Due.done("index and block", x, 2, 0, Due.STAT, 1, 3);
    Due.done("add where there is none", x, -8, 0, Due.ADD, 1, 127, -8);
    Due.done("a block more", x, 3, 0, Due.STAT, 1, 3);
  }
}

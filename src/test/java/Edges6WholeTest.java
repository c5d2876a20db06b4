/**
 * Section 6: the whole is right behind a crash in each kind of write of each kind of call; and what
 * about(9) gives when the disk is wrong, which no run of calls makes it, so the test sets its words.
 */
public final class Edges6WholeTest {
  private static final int[][] CALLS = {
    {Due.MAKE, 0, 50, 1}, {Due.MAKE, 2, 50, 2}, {Due.REMOVE, 0, 5}, {Due.REMOVE, 2, 7},
    {Due.REMOVE, 0, 8}, {Due.LINK, 2, 50, 1}, {Due.RENAME, 0, 6, 0, 50}, {Due.RENAME, 0, 5, 2, 50},
    {Due.WRITE, 1, 3, 9}, {Due.WRITE, 3, 300, 9}, {Due.CUT, 1, 0}, {Due.CUT, 1, 130},
    {Due.CUT, 1, 384}, {Due.ADD, 1, 200, 5}, {Due.APPEND, 3, 7}
  };
  private static final int[] TORN = {0, 1, 2, 3, 4, 9, 15};
  /** Where inodes are among the words of the disk, and the root's entries. */
  private static final int ROOT = 129 * 16;
  private static final int FILE = 130 * 16;
  private static final int DIRECTORY = 131 * 16;
  private static final int ENTRIES = 145 * 16;
  private static final int MAP = 128 * 16;

  public static void main(String[] args) {
    for (int[] call : CALLS) {
      crashes(call);
    }
    right();
    names();
    namedTwice();
    notReached();
    links();
    blocks();
    maps();
    journals();
    Due.end();
  }

  /** The root has 5: file 1 of 5 blocks and an index, 6: directory 2 with 7: file 3, 8: directory 4. */
  private static ClusterShelf tree() {
    ClusterShelf x = new ClusterShelf(2);
    Due.go(x, 0, Due.MAKE, 0, 5, 1);
    Due.go(x, 0, Due.MAKE, 0, 6, 2);
    Due.go(x, 0, Due.MAKE, 2, 7, 1);
    Due.go(x, 0, Due.MAKE, 0, 8, 2);
    for (int word : new int[] {0, 40, 130, 140, 200, 210}) {
      Due.go(x, 0, Due.WRITE, 1, word, word + 1);
    }
    Due.go(x, 0, Due.SYNC);
    return x;
  }

  private static int[] groups(ClusterShelf x) {
    int[] words = new int[512 * 16];
    for (int i = 0; i < words.length; i++) {
      words[i] = x.word(128 + i / 16, i % 16);
    }
    return words;
  }

  private static void crashes(int[] call) {
    int[] args = java.util.Arrays.copyOfRange(call, 1, call.length);
    int[] without = groups(tree());
    ClusterShelf all = tree();
    Due.go(all, 0, call[0], args);
    Due.is("kind " + call[0], all.result(0, 0), 2);
    int blocks = all.node(0, 2);
    Due.go(all, 0, Due.SYNC);
    int[] with = groups(all);
    for (int done = 0; done < 2 * blocks + 3; done++) {
      for (int torn : TORN) {
        String what = "kind " + call[0] + " crashes behind " + done + " writes, torn " + torn;
        ClusterShelf x = tree();
        Due.go(x, 0, call[0], args);
        int ended = x.about(4) - 1;
        Due.begin(x, 0, Due.SYNC);
        x.tick(done);
        Due.is(what + ": ahead of it", x.about(9), 0);
        x.crash(0, torn);
        Due.is(what + ": the whole", x.about(9), 0);
        boolean counts = done > blocks + 1 || done == blocks + 1 && torn >= 3;
        boolean isOver = done == 2 * blocks + 2 && torn >= 3;
        Due.is(what + ": its fate", x.history(ended, 9), counts ? 2 : 3);
        Due.is(what + ": images", x.recover(0), counts && !isOver ? blocks : 0);
        Due.is(what + ": recovered", x.about(9), 0);
        Due.is(what + ": all or nothing", same(groups(x), counts ? with : without), 1);
      }
    }
  }

  private static int same(int[] one, int[] other) {
    return java.util.Arrays.equals(one, other) ? 1 : 0;
  }

  /** Sets words of a right disk (place, word, place, word, ..), and tells what is wrong then. */
  private static void wrong(String what, int due, int... placesAndWords) {
    ClusterShelf x = tree();
    int[] disk = Inside.disk(x);
    int[] before = disk.clone();
    for (int i = 0; i < placesAndWords.length; i += 2) {
      disk[placesAndWords[i]] = placesAndWords[i + 1];
    }
    Due.is(what, x.about(9), due);
    Due.is(what + ", asked again", x.about(9), due);
    System.arraycopy(before, 0, disk, 0, before.length);
    Due.is(what + ", mended", x.about(9), 0);
  }

  private static void right() {
    ClusterShelf x = tree();
    int[] disk = Inside.disk(x);
    int[] due = {5, 1, 6, 2, 8, 4};
    for (int w = 0; w < 16; w++) {
      Due.is("the root's entries", disk[ENTRIES + w], w < due.length ? due[w] : 0);
    }
    Due.is("the directory's block", disk[DIRECTORY + 3], 146);
    Due.is("the file's blocks", disk[FILE + 3] * 1000 + disk[FILE + 5], 147148);
    Due.is("its index", disk[FILE + 11], 149);
    Due.is("its blocks", disk[149 * 16], 150);
    Due.is("its blocks", disk[149 * 16 + 4], 151);
    Due.is("its blocks", disk[149 * 16 + 5], 152);
    wrong("nothing is set", 0);
  }

  /** "1 an entry .. (below its size) that names no used inode's kind (0, or not 0 .. 127)". */
  private static void names() {
    for (int inode : new int[] {5, 50, 127, 128, -1, Integer.MIN_VALUE, Integer.MAX_VALUE}) {
      wrong("the root names " + inode, 1, ENTRIES + 1, inode);
      wrong("directory 2 names " + inode, 1, 146 * 16 + 1, inode);
    }
    wrong("behind the size", 0, ENTRIES + 6, 9, ENTRIES + 7, 128);
    wrong("at the end of the size", 1, ROOT + 2, 8, ENTRIES + 6, 9, ENTRIES + 7, 128);
    wrong("a size without a block: its words are 0", 0, ROOT + 2, 32);
    wrong("and without an index", 0, ROOT + 2, 384);
    wrong("no name, so no entry", 0, ROOT + 2, 8, ENTRIES + 7, 128);
    wrong("in one that isn't reached", 3, ENTRIES + 2, 0, ENTRIES + 3, 0, 146 * 16 + 1, 128);
    wrong("ahead of all else", 1, ENTRIES + 1, 128, FILE + 1, 7, MAP, 0, DIRECTORY + 3, 1);
  }

  /** "2 a directory that is named more than once (by these), or the root is". */
  private static void namedTwice() {
    wrong("directory 2 twice by the root", 2, ENTRIES + 1, 2);
    wrong("directory 4 by directory 2, too", 2, 146 * 16 + 1, 4);
    wrong("by itself", 2, 146 * 16 + 1, 2);
    wrong("the root by itself", 2, ENTRIES + 1, 0);
    wrong("the root by directory 2", 2, 146 * 16 + 1, 0);
    wrong("inode 1, as a directory", 2, FILE, 2, FILE + 1, 2, FILE + 2, 0,
        ROOT + 2, 8, ENTRIES + 6, 9, ENTRIES + 7, 1);
    wrong("the last inode, as a directory", 2, 592 * 16, 2, 592 * 16 + 1, 2,
        ROOT + 2, 10, ENTRIES + 6, 9, ENTRIES + 7, 127, ENTRIES + 8, 10, ENTRIES + 9, 127);
    wrong("a file twice", 4, ROOT + 2, 8, ENTRIES + 6, 9, ENTRIES + 7, 1);
    wrong("a file twice, with two links", 0,
        ROOT + 2, 8, ENTRIES + 6, 9, ENTRIES + 7, 1, FILE + 1, 2);
  }

  /** "3 an inode that isn't the root, is of a kind other than 0, and isn't reached from the root". */
  private static void notReached() {
    wrong("file 1", 3, ENTRIES, 0, ENTRIES + 1, 0);
    wrong("directory 4", 3, ENTRIES + 4, 0, ENTRIES + 5, 0);
    wrong("directory 2, and file 3 with it", 3, ENTRIES + 2, 0, ENTRIES + 3, 0);
    wrong("a file that no entry names", 3, 592 * 16, 1, 592 * 16 + 1, 1);
    wrong("a smaller size", 3, ROOT + 2, 4);
    wrong("ahead of links, blocks and maps", 3, ENTRIES, 0, ENTRIES + 1, 0, FILE + 1, 0);
  }

  /** "4 links that are not how many entries name it (the root: 1)". */
  private static void links() {
    for (int links : new int[] {0, 2, -1, Integer.MAX_VALUE}) {
      wrong("file 1 with " + links, 4, FILE + 1, links);
      wrong("directory 2 with " + links, 4, DIRECTORY + 1, links);
      wrong("file 3 with " + links, 4, 132 * 16 + 1, links);
      wrong("the root with " + links, 4, ROOT + 1, links);
    }
    wrong("ahead of blocks and maps", 4, FILE + 1, 2, FILE + 3, 1, MAP, 0);
  }

  /** "5 a block that two places of inodes (or indexes) have, or one that is no data block". */
  private static void blocks() {
    wrong("twice in one inode", 5, FILE + 4, 147);
    wrong("of two inodes", 5, 132 * 16 + 3, 147);
    wrong("of an inode and an index", 5, FILE + 4, 150);
    wrong("twice in one index", 5, 149 * 16 + 1, 150);
    wrong("an index as a block", 5, FILE + 4, 149);
    wrong("an index of two", 5, 132 * 16 + 11, 149);
    int[] noData = {1, 127, 128, 129, 144, 192, 193, 208, 576, 592, 640, -1,
        Integer.MIN_VALUE, Integer.MAX_VALUE};
    for (int block : noData) {
      wrong("block " + block + " of an inode", 5, FILE + 4, block);
      wrong("block " + block + " of an index", 5, 149 * 16 + 15, block);
      wrong("block " + block + " as an index", 5, 132 * 16 + 11, block);
    }
    for (int block : new int[] {145 + 46, 209, 639}) {
      wrong("data block " + block + " that isn't in the map", 6, FILE + 4, block);
    }
    wrong("of an inode of kind 0", 0, 592 * 16 + 3, 147);
    wrong("ahead of maps", 5, FILE + 4, 147, MAP, 0);
  }

  /** "6 a map that has another bit than inodes .. and blocks that inodes have, give". */
  private static void maps() {
    ClusterShelf x = tree();
    int inodes = x.word(128, 0);
    int data = x.word(128, 1);
    Due.is("inodes", inodes, 31);
    Due.is("data", data, 255);
    wrong("an inode less", 6, MAP, inodes & ~16);
    wrong("an inode more", 6, MAP, inodes | 32);
    wrong("the root less", 6, MAP, inodes & ~1);
    wrong("a bit behind the inodes", 6, MAP, inodes | 1 << 16);
    wrong("a block less", 6, MAP + 1, data & ~128);
    wrong("a block more", 6, MAP + 1, data | 256);
    wrong("block 31 more", 6, MAP + 1, data | 1 << 31);
    wrong("block 46 more", 6, MAP + 2, 1 << 14);
    wrong("the last inode", 6, 576 * 16, 1 << 15);
    wrong("the last block", 6, 576 * 16 + 2, 1 << 14);
  }

  /** "the disk as it would be if all nodes that are joined recovered now (up ones, too)". */
  private static void journals() {
    ClusterShelf x = tree();
    int[] disk = Inside.disk(x);
    // Node 1's journal has one image: file 1 with two links.
    int head = 25 * 16;
    disk[head + 1] = 1;
    disk[head + 16] = 130;
    System.arraycopy(disk, FILE, disk, head + 32, 16);
    disk[head + 33] = 2;
    Due.is("its head doesn't count", x.about(9), 0);
    disk[head + 2] = 1;
    Due.is("of one that is up", x.about(9), 4);
    Due.is("the disk stays", x.word(130, 1), 1);
    Due.is("and the head", x.word(25, 2), 1);
    x.crash(1, 0);
    Due.is("of one that is down and joined", x.about(9), 4);
    disk[head + 2] = 0;
    Due.is("no image", x.recover(1), 0);
    disk[head + 2] = 1;
    Due.is("of one that isn't joined", x.about(9), 0);
    x.start(1);
    Due.is("of one that started", x.about(9), 4);
    disk[head + 1] = 0;
    Due.is("of no image", x.about(9), 0);
  }
}

/** Promise 2 and section 3: what each kind of call does, with its faults. */
public final class P02CallKindsTest {
  public static void main(String[] args) {
    look();
    make();
    remove();
    link();
    rename();
    readAndWrite();
    cut();
    cutEdges();
    entryAndCount();
    stat();
    addAndAppend();
    roomAndSync();
    noInode();
    noBlock();
    fullDirectory();
    Due.end();
  }

  /** The root has 5: file 1, 6: directory 2. */
  private static ClusterShelf two() {
    ClusterShelf x = new ClusterShelf(2);
    Due.done("file", x, 1, 0, Due.MAKE, 0, 5, 1);
    Due.done("directory", x, 2, 0, Due.MAKE, 0, 6, 2);
    return x;
  }

  private static void whole(String what, ClusterShelf x) {
    for (int node = 0; node < x.about(6); node++) {
      Due.done(what + ": sync", x, 0, node, Due.SYNC);
    }
    Due.rest(x);
    Due.is(what + ": about(9)", x.about(9), 0);
  }

  private static void look() {
    ClusterShelf x = two();
    Due.done("look", x, 1, 0, Due.LOOK, 0, 5);
    Due.done("look of the other node", x, 2, 1, Due.LOOK, 0, 6);
    Due.fault("no entry", x, -3, 0, Due.LOOK, 0, 7);
    Due.fault("no entry in an empty one", x, -3, 0, Due.LOOK, 2, 5);
    Due.fault("a file", x, -2, 0, Due.LOOK, 1, 5);
    Due.fault("nothing", x, -2, 0, Due.LOOK, 3, 5);
    whole("look", x);
  }

  private static void make() {
    ClusterShelf x = two();
    Due.fault("there is one", x, -6, 0, Due.MAKE, 0, 5, 2);
    Due.fault("a file is no directory", x, -2, 0, Due.MAKE, 1, 5, 1);
    Due.fault("nothing is no directory", x, -2, 0, Due.MAKE, 9, 5, 1);
    Due.done("in the other directory", x, 3, 1, Due.MAKE, 2, 5, 1);
    Due.done("of a negative name", x, 4, 1, Due.MAKE, 2, -5, 1);
    whole("make", x);
    int[] file = {1, 1, 0, 0};
    for (int w = 0; w < 16; w++) {
      Due.is("word " + w + " of the file", x.word(130, w), w < 2 ? file[w] : 0);
    }
    Due.is("root's size", x.word(129, 2), 4);
    Due.is("root's block", x.word(129, 3), 145);
    Due.is("first name", x.word(145, 0), 5);
    Due.is("first inode", x.word(145, 1), 1);
    Due.is("second name", x.word(145, 2), 6);
    Due.is("second inode", x.word(145, 3), 2);
    Due.is("directory's kind", x.word(131, 0), 2);
    Due.is("directory's block", x.word(131, 3), 146);
    Due.is("map, inodes", x.word(128, 0), 31);
    Due.is("map, blocks", x.word(128, 1), 3);
  }

  private static void remove() {
    ClusterShelf x = two();
    Due.fault("no entry", x, -3, 0, Due.REMOVE, 0, 7);
    Due.fault("no directory", x, -2, 0, Due.REMOVE, 1, 7);
    Due.done("an entry", x, 3, 0, Due.MAKE, 2, 8, 1);
    Due.fault("not empty", x, -8, 0, Due.REMOVE, 0, 6);
    Due.done("emptied", x, 0, 1, Due.REMOVE, 2, 8);
    Due.done("empty", x, 0, 1, Due.REMOVE, 0, 6);
    Due.fault("gone", x, -3, 0, Due.LOOK, 0, 6);
    Due.fault("nothing", x, -5, 0, Due.STAT, 2, 0);
    for (int place : new int[] {0, 130, 383}) {
      Due.done("write", x, 7, 0, Due.WRITE, 1, place, 7);
    }
    Due.done("blocks", x, 4, 0, Due.STAT, 1, 3);
    Due.done("link", x, 2, 0, Due.LINK, 0, 9, 1);
    Due.done("one link less", x, 0, 0, Due.REMOVE, 0, 5);
    Due.done("links", x, 1, 1, Due.STAT, 1, 1);
    Due.done("the words stay", x, 7, 1, Due.READ, 1, 383);
    Due.done("the last link", x, 0, 1, Due.REMOVE, 0, 9);
    whole("remove", x);
    for (int w = 0; w < 16; w++) {
      Due.is("the inode is 0", x.word(130, w), 0);
    }
    Due.is("inodes used", x.about(8), 1);
    Due.is("blocks used", x.about(7), 1);
    Due.is("root's size stays", x.word(129, 2), 4);
    Due.is("both words of an entry are 0", x.word(145, 0) | x.word(145, 1), 0);
  }

  private static void link() {
    ClusterShelf x = two();
    Due.fault("no directory", x, -2, 0, Due.LINK, 1, 9, 1);
    Due.fault("there is one", x, -6, 0, Due.LINK, 0, 5, 2);
    Due.fault("a directory", x, -4, 0, Due.LINK, 0, 9, 2);
    Due.fault("itself", x, -4, 0, Due.LINK, 0, 9, 0);
    Due.fault("nothing", x, -4, 0, Due.LINK, 0, 9, 3);
    Due.done("two links", x, 2, 0, Due.LINK, 0, 9, 1);
    Due.done("three links", x, 3, 1, Due.LINK, 2, 9, 1);
    Due.done("found there", x, 1, 0, Due.LOOK, 2, 9);
    Due.done("its links", x, 3, 0, Due.STAT, 1, 1);
    whole("link", x);
  }

  private static void rename() {
    ClusterShelf x = two();
    Due.fault("no directory", x, -2, 0, Due.RENAME, 1, 5, 0, 7);
    Due.fault("no other directory", x, -2, 0, Due.RENAME, 0, 5, 1, 7);
    Due.fault("no other directory ahead of no entry", x, -2, 0, Due.RENAME, 0, 77, 1, 7);
    Due.fault("no entry", x, -3, 0, Due.RENAME, 0, 7, 2, 7);
    Due.fault("a directory goes elsewhere", x, -9, 0, Due.RENAME, 0, 6, 2, 7);
    Due.done("a directory within", x, 0, 0, Due.RENAME, 0, 6, 0, 8);
    Due.done("to its own name", x, 0, 0, Due.RENAME, 0, 8, 0, 8);
    Due.is("that changed nothing", x.history(x.about(4) - 1, 9), 0);
    Due.fault("there is one", x, -6, 0, Due.RENAME, 0, 8, 0, 5);
    Due.done("elsewhere", x, 0, 1, Due.RENAME, 0, 5, 2, 5);
    Due.fault("gone here", x, -3, 0, Due.LOOK, 0, 5);
    Due.done("there now", x, 1, 0, Due.LOOK, 2, 5);
    Due.done("a new one", x, 3, 0, Due.MAKE, 0, 5, 1);
    Due.fault("there is one elsewhere", x, -6, 0, Due.RENAME, 0, 5, 2, 5);
    Due.done("links stay", x, 1, 0, Due.STAT, 1, 1);
    whole("rename", x);
    Due.is("the freed entry is put again", x.word(145, 0), 5);
    Due.is("with the new inode", x.word(145, 1), 3);
    Due.is("the renamed one stays in its place", x.word(145, 2), 8);
  }

  private static void readAndWrite() {
    ClusterShelf x = two();
    Due.fault("nothing is written", x, -10, 0, Due.READ, 1, 0);
    Due.fault("a directory", x, -4, 0, Due.READ, 2, 0);
    Due.fault("nothing", x, -4, 0, Due.READ, 3, 0);
    Due.fault("write to a directory", x, -4, 0, Due.WRITE, 0, 0, 1);
    Due.done("write", x, -9, 0, Due.WRITE, 1, 20, -9);
    Due.done("read", x, -9, 0, Due.READ, 1, 20);
    Due.done("in the same block", x, 0, 0, Due.READ, 1, 16);
    Due.done("where there is no block", x, 0, 0, Due.READ, 1, 0);
    Due.fault("behind", x, -10, 0, Due.READ, 1, 21);
    Due.done("size", x, 21, 0, Due.STAT, 1, 2);
    Due.done("one block", x, 1, 0, Due.STAT, 1, 3);
    Due.done("below the size", x, 3, 0, Due.WRITE, 1, 2, 3);
    Due.done("size stays", x, 21, 0, Due.STAT, 1, 2);
    Due.done("the last word", x, 8, 1, Due.WRITE, 1, 383, 8);
    Due.done("index and block", x, 4, 1, Due.STAT, 1, 3);
    Due.done("a hole of the index", x, 0, 1, Due.READ, 1, 200);
    Due.done("read of the other node", x, 8, 0, Due.READ, 1, 383);
    whole("write", x);
    Due.is("block of words 16 ..", x.word(130, 4), 146);
    Due.is("block of words 0 ..", x.word(130, 3), 147);
    Due.is("the index is taken first", x.word(130, 11), 148);
    Due.is("then the block", x.word(148, 15), 149);
    Due.is("its word", x.word(149, 15), 8);
  }

  private static void cut() {
    ClusterShelf x = two();
    Due.fault("a directory", x, -4, 0, Due.CUT, 2, 0);
    for (int place = 0; place < 384; place += 16) {
      Due.done("write", x, place + 15, 0, Due.WRITE, 1, place + 15, place + 15);
    }
    Due.done("all blocks", x, 25, 0, Due.STAT, 1, 3);
    Due.done("to 369", x, 384, 0, Due.CUT, 1, 369);
    Due.done("no block goes", x, 25, 0, Due.STAT, 1, 3);
    Due.done("to more", x, 369, 0, Due.CUT, 1, 384);
    Due.done("what was cut is 0", x, 0, 0, Due.READ, 1, 383);
    Due.done("to 368", x, 384, 0, Due.CUT, 1, 368);
    Due.done("one block goes", x, 24, 0, Due.STAT, 1, 3);
    Due.done("to 129", x, 368, 0, Due.CUT, 1, 129);
    Due.done("one stays in the index", x, 10, 0, Due.STAT, 1, 3);
    Due.done("to 128", x, 129, 0, Due.CUT, 1, 128);
    Due.done("the index goes", x, 8, 0, Due.STAT, 1, 3);
    Due.done("to 17", x, 128, 1, Due.CUT, 1, 17);
    Due.done("two blocks", x, 2, 1, Due.STAT, 1, 3);
    Due.done("what stays", x, 15, 1, Due.READ, 1, 15);
    Due.done("to more again", x, 17, 1, Due.CUT, 1, 384);
    Due.done("the tail is 0", x, 0, 1, Due.READ, 1, 31);
    Due.done("to 0", x, 384, 1, Due.CUT, 1, 0);
    Due.done("none", x, 0, 0, Due.STAT, 1, 3);
    whole("cut", x);
    for (int w = 2; w < 16; w++) {
      Due.is("no place is left", x.word(130, w), 0);
    }
  }

  /** Which blocks a cut changes and reads. */
  private static void cutEdges() {
    ClusterShelf x = two();
    Due.done("write", x, 9, 0, Due.WRITE, 1, 3, 9);
    Due.done("sync", x, 0, 0, Due.SYNC);
    Due.done("to more in the last block", x, 4, 0, Due.CUT, 1, 10);
    Due.is("inode and block are changed", x.node(0, 2), 2);
    Due.done("sync", x, 0, 0, Due.SYNC);
    Due.done("to the block's end", x, 10, 0, Due.CUT, 1, 16);
    Due.is("the inode alone is changed", x.node(0, 2), 1);
    Due.done("sync", x, 0, 0, Due.SYNC);
    Due.done("where there is no block", x, 16, 0, Due.CUT, 1, 20);
    Due.is("the inode alone is changed", x.node(0, 2), 1);
    Due.done("the same", x, 20, 0, Due.CUT, 1, 20);
    Due.is("that is changed, too", x.history(x.about(4) - 1, 9), 1);

    Due.done("write", x, 5, 0, Due.WRITE, 1, 380, 5);
    Due.done("sync", x, 0, 0, Due.SYNC);
    Due.done("count", x, 2, 1, Due.COUNT, 0);
    Due.done("node 1 has it now", x, 381, 1, Due.STAT, 1, 2);
    Due.done("to 384", x, 381, 1, Due.CUT, 1, 384);
    int index = x.word(130, 11);
    Due.nsee("the index isn't read", () -> x.cached(1, index, 0));
    Due.done("to 381", x, 384, 1, Due.CUT, 1, 381);
    Due.is("the index is read for the last block", x.cached(1, index, 15), x.word(index, 15));
    Due.done("what stays", x, 5, 0, Due.READ, 1, 380);
    whole("cut edges", x);
  }

  private static void entryAndCount() {
    ClusterShelf x = two();
    Due.done("a third", x, 3, 0, Due.MAKE, 0, 7, 1);
    Due.done("three", x, 3, 0, Due.COUNT, 0);
    Due.done("first", x, 5, 0, Due.ENTRY, 0, 0);
    Due.done("second", x, 6, 1, Due.ENTRY, 0, 1);
    Due.done("remove", x, 0, 0, Due.REMOVE, 0, 6);
    Due.done("two", x, 2, 1, Due.COUNT, 0);
    Due.done("the second that there is", x, 7, 0, Due.ENTRY, 0, 1);
    Due.fault("no third", x, -3, 0, Due.ENTRY, 0, 2);
    Due.fault("no 192nd", x, -3, 0, Due.ENTRY, 0, 191);
    Due.fault("entry of a file", x, -2, 0, Due.ENTRY, 1, 0);
    Due.fault("count of a file", x, -2, 0, Due.COUNT, 1);
    Due.fault("count of nothing", x, -2, 0, Due.COUNT, 127);
    Due.done("into the first hole", x, 2, 0, Due.MAKE, 0, 8, 2);
    Due.done("so it is the second", x, 8, 0, Due.ENTRY, 0, 1);
    Due.done("none in it", x, 0, 0, Due.COUNT, 2);
    whole("entry", x);
  }

  private static void stat() {
    ClusterShelf x = two();
    int[] root = {2, 1, 4, 1};
    int[] file = {1, 1, 0, 0};
    for (int what = 0; what < 4; what++) {
      Due.done("root " + what, x, root[what], 1, Due.STAT, 0, what);
      Due.done("file " + what, x, file[what], 0, Due.STAT, 1, what);
      Due.fault("nothing " + what, x, -5, 0, Due.STAT, 100, what);
    }
  }

  private static void addAndAppend() {
    ClusterShelf x = two();
    Due.fault("add to a directory", x, -4, 0, Due.ADD, 2, 0, 1);
    Due.done("add where there was none", x, 4, 0, Due.ADD, 1, 130, 4);
    Due.done("add", x, 1, 1, Due.ADD, 1, 130, -3);
    Due.done("read", x, 1, 0, Due.READ, 1, 130);
    Due.done("it wraps", x, Integer.MIN_VALUE, 0, Due.ADD, 1, 130, Integer.MAX_VALUE);
    Due.done("size", x, 131, 0, Due.STAT, 1, 2);
    Due.fault("append to a directory", x, -4, 0, Due.APPEND, 2, 1);
    Due.fault("append to nothing", x, -4, 0, Due.APPEND, 3, 1);
    Due.done("append", x, 131, 0, Due.APPEND, 1, 50);
    Due.done("append of the other node", x, 132, 1, Due.APPEND, 1, 51);
    Due.done("read", x, 51, 0, Due.READ, 1, 132);
    Due.done("cut to 383", x, 133, 0, Due.CUT, 1, 383);
    Due.done("append at the end", x, 383, 0, Due.APPEND, 1, 52);
    Due.fault("no room", x, -7, 0, Due.APPEND, 1, 53);
    Due.done("size", x, 384, 0, Due.STAT, 1, 2);
    whole("append", x);
  }

  private static void roomAndSync() {
    ClusterShelf x = two();
    Due.done("room", x, 375, 1, Due.ROOM);
    Due.done("write", x, 1, 0, Due.WRITE, 1, 200, 1);
    Due.done("room", x, 373, 1, Due.ROOM);
    Due.done("make", x, 3, 0, Due.MAKE, 2, 1, 1);
    Due.is("sync waits", Due.begin(x, 0, Due.SYNC), 0);
    Due.is("it begins a flush", x.node(0, 4) > 0 ? 1 : 0, 1);
    Due.is("the log is empty", x.node(0, 2), 0);
    int left = x.node(0, 3);
    Due.is("one tick ahead of the end", x.tick(left - 1), 0);
    Due.is("the end", x.tick(1), 1);
    Due.is("sync gives", x.result(0, 1), 0);
    Due.is("it was tried once", x.result(0, 3), 1);
    Due.is("its list is empty", x.result(0, 4), 0);
    Due.is("nothing is left to write", Due.begin(x, 0, Due.SYNC), 1);
  }

  private static void noInode() {
    ClusterShelf x = new ClusterShelf(2);
    Due.done("in group 0", x, 1, 0, Due.MAKE, 0, 1, 2);
    for (int i = 2; i < 128; i++) {
      Due.done("in order, from the directory's group on", x, i, 0, Due.MAKE, i < 20 ? 0 : 1, i, 1);
    }
    Due.fault("no inode is left", x, -7, 0, Due.MAKE, 0, 500, 1);
    Due.done("one goes", x, 0, 0, Due.REMOVE, 1, 77);
    Due.done("it is taken again", x, 77, 1, Due.MAKE, 0, 500, 2);
    Due.done("another one goes", x, 0, 0, Due.REMOVE, 1, 33);
    Due.done("and one of the directory's group", x, 0, 0, Due.REMOVE, 1, 70);
    Due.done("that is first", x, 70, 0, Due.MAKE, 77, 1, 1);
    Due.done("then behind group 7 from group 0 on", x, 33, 0, Due.MAKE, 77, 2, 1);
    whole("no inode", x);
    Due.is("all are used", x.about(8), 128);
  }

  private static void noBlock() {
    ClusterShelf x = new ClusterShelf(2);
    for (int k = 1; k <= 15; k++) {
      Due.done("file", x, k, 0, Due.MAKE, 0, k, 1);
    }
    Due.done("directory", x, 16, 0, Due.MAKE, 0, 16, 2);
    // The root has a block for each 8 entries.
    Due.done("an empty file", x, 17, 0, Due.MAKE, 0, 17, 1);
    int left = 376 - 3;
    for (int k = 1; k <= 15 && left > 0; k++) {
      for (int place = 383; place > 0 && left > 0; place -= 16) {
        int needs = place == 383 ? 2 : 1;
        if (needs <= left) {
          Due.done("write", x, k, 0, Due.WRITE, k, place, k);
        }
        left -= needs;
      }
    }
    Due.done("nothing is free", x, 0, 1, Due.ROOM);
    Due.fault("write", x, -7, 0, Due.WRITE, 15, 5, 1);
    Due.fault("make, without a block for the entry", x, -7, 0, Due.MAKE, 16, 5, 1);
    Due.fault("link likewise", x, -7, 0, Due.LINK, 16, 5, 1);
    Due.fault("rename likewise", x, -7, 0, Due.RENAME, 0, 1, 16, 1);
    Due.fault("append likewise", x, -7, 0, Due.APPEND, 17, 1);
    Due.done("size stays", x, 384, 0, Due.STAT, 15, 2);
    Due.done("cut gives back", x, 384, 0, Due.CUT, 14, 0);
    Due.done("room", x, 25, 1, Due.ROOM);
    Due.done("write", x, 1, 1, Due.WRITE, 15, 5, 1);
    whole("no block", x);
  }

  private static void fullDirectory() {
    ClusterShelf x = new ClusterShelf(2);
    Due.done("file", x, 1, 0, Due.MAKE, 0, 1000, 1);
    for (int i = 1; i < 192; i++) {
      Due.done("link", x, i + 1, 0, Due.LINK, 0, i, 1);
    }
    Due.fault("no room for a link", x, -7, 0, Due.LINK, 0, 192, 1);
    Due.done("links stay", x, 192, 0, Due.STAT, 1, 1);
    Due.fault("no room for a file", x, -7, 0, Due.MAKE, 0, 192, 1);
    Due.fault("no inode was taken", x, -5, 0, Due.STAT, 2, 0);
    Due.done("within it is room", x, 0, 0, Due.RENAME, 0, 100, 0, 192);
    Due.done("all are there", x, 192, 1, Due.COUNT, 0);
    Due.done("the last one", x, 191, 1, Due.ENTRY, 0, 191);
    whole("full directory", x);
  }
}

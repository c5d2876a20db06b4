/**
 * Section 3: "what each MEETS, in this order .. the first FAULT that is met ends it, and nothing is
 * changed". Where two faults are so at once, the first one is answered, and no resource behind it is met.
 */
public final class Edges3FaultsTest {
  private static final int NOTHING = 100;
  private static final int FILE = 1;
  private static final int DIRECTORY = 2;
  private static final int FULL = 3;

  public static void main(String[] args) {
    noDirectory();
    noFile();
    nothing();
    inADirectory();
    inAFullDirectory();
    behind();
    noInode();
    appendAtTheEnd();
    addPastTheGreatest();
    removeOfLinks();
    Due.end();
  }

  /** The root has 5: file 1, 6: directory 2 with 7: file 3, 8: file 4 with no word. */
  private static ClusterShelf tree() {
    ClusterShelf x = new ClusterShelf(2);
    Due.go(x, 0, Due.MAKE, 0, 5, 1);
    Due.go(x, 0, Due.MAKE, 0, 6, 2);
    Due.go(x, 0, Due.MAKE, 2, 7, 1);
    Due.go(x, 0, Due.MAKE, 0, 8, 1);
    Due.go(x, 0, Due.WRITE, 1, 9, 99);
    Due.go(x, 0, Due.SYNC);
    Due.is("the tree", x.about(9), 0);
    return x;
  }

  /** A fault, how many resources are met up to it, and that nothing is changed. */
  private static void fault(String what, ClusterShelf x, int fault, int met, int kind, int... args) {
    int flushes = x.node(0, 4);
    Due.fault(what, x, fault, 0, kind, args);
    Due.is(what + ": resources met", x.result(0, 4), met);
    Due.is(what + ": log", x.node(0, 2), 0);
    Due.is(what + ": flushes", x.node(0, 4), flushes);
    Due.is(what + ": it changed nothing", x.history(x.about(4) - 1, 9), 0);
    Due.is(what + ": its fault", x.history(x.about(4) - 1, 7), fault);
  }

  /** "-2 NO DIRECTORY (d or e is of kind 0 or 1)", ahead of all else. */
  private static void noDirectory() {
    ClusterShelf x = tree();
    for (int d : new int[] {FILE, NOTHING, 127}) {
      fault("look", x, -2, 1, Due.LOOK, d, 5);
      fault("make", x, -2, 1, Due.MAKE, d, 5, 1);
      fault("remove", x, -2, 1, Due.REMOVE, d, 5);
      fault("link", x, -2, 1, Due.LINK, d, 5, FILE);
      fault("link of no file", x, -2, 1, Due.LINK, d, 5, NOTHING);
      fault("link of itself", x, -2, 1, Due.LINK, d, 5, d);
      fault("rename of it", x, -2, 1, Due.RENAME, d, 5, 0, 9);
      fault("rename within it", x, -2, 1, Due.RENAME, d, 5, d, 5);
      fault("rename to it", x, -2, 2, Due.RENAME, 0, 5, d, 9);
      fault("rename to it of no entry", x, -2, 2, Due.RENAME, 0, 77, d, 9);
      fault("rename to it of a directory", x, -2, 2, Due.RENAME, 0, 6, d, 9);
      fault("entry", x, -2, 1, Due.ENTRY, d, 0);
      fault("last entry", x, -2, 1, Due.ENTRY, d, 191);
      fault("count", x, -2, 1, Due.COUNT, d);
    }
  }

  /** "-4 NO FILE (k is of kind 0 or 2)". */
  private static void noFile() {
    ClusterShelf x = tree();
    for (int k : new int[] {0, DIRECTORY, NOTHING, 127}) {
      fault("read", x, -4, 1, Due.READ, k, 0);
      fault("read behind", x, -4, 1, Due.READ, k, 383);
      fault("write", x, -4, 1, Due.WRITE, k, 0, 1);
      fault("cut", x, -4, 1, Due.CUT, k, 0);
      fault("cut to more", x, -4, 1, Due.CUT, k, 384);
      fault("add", x, -4, 1, Due.ADD, k, 383, 1);
      fault("append", x, -4, 1, Due.APPEND, k, 1);
      fault("link", x, -4, k == 0 ? 1 : 2, Due.LINK, 0, 9, k);
    }
  }

  /** "-5 NOTHING (kind 0)", of STAT alone. */
  private static void nothing() {
    ClusterShelf x = tree();
    for (int what = 0; what < 4; what++) {
      fault("stat", x, -5, 1, Due.STAT, NOTHING, what);
      fault("stat of the last", x, -5, 1, Due.STAT, 127, what);
    }
    int[][] due = {{2, 1, 6, 1}, {1, 1, 10, 1}, {2, 1, 2, 1}, {1, 1, 0, 0}, {1, 1, 0, 0}};
    for (int k = 0; k < due.length; k++) {
      for (int what = 0; what < 4; what++) {
        Due.done("stat of " + k + ", " + what, x, due[k][what], 0, Due.STAT, k, what);
      }
    }
  }

  private static void inADirectory() {
    ClusterShelf x = tree();
    fault("look: no entry", x, -3, 1, Due.LOOK, 0, 9);
    fault("look: an entry of another directory", x, -3, 1, Due.LOOK, 2, 5);
    fault("make: there is one", x, -6, 1, Due.MAKE, 0, 5, 1);
    fault("make: there is a directory", x, -6, 1, Due.MAKE, 0, 6, 2);
    fault("remove: no entry", x, -3, 1, Due.REMOVE, 0, 9);
    fault("remove: not empty", x, -8, 2, Due.REMOVE, 0, 6);
    fault("link: there is one, and no file", x, -6, 1, Due.LINK, 0, 5, NOTHING);
    fault("link: there is one, which is it", x, -6, 1, Due.LINK, 0, 5, FILE);
    fault("rename: no entry, other is there", x, -3, 2, Due.RENAME, 0, 9, 2, 7);
    fault("rename within: no entry", x, -3, 1, Due.RENAME, 0, 9, 0, 9);
    fault("rename within: no entry, other is there", x, -3, 1, Due.RENAME, 0, 9, 0, 5);
    fault("rename: a directory goes elsewhere, other is there", x, -9, 2, Due.RENAME, 0, 6, 2, 7);
    fault("rename: there is one", x, -6, 3, Due.RENAME, 0, 5, 2, 7);
    fault("rename within: there is one", x, -6, 1, Due.RENAME, 0, 5, 0, 6);
    fault("entry: no third", x, -3, 1, Due.ENTRY, 0, 3);
    fault("entry: no second", x, -3, 1, Due.ENTRY, 2, 1);
    Due.done("the last one", x, 8, 0, Due.ENTRY, 0, 2);
    Due.done("its own name", x, 0, 0, Due.RENAME, 0, 5, 0, 5);
    Due.is("that meets the root alone", x.result(0, 4), 1);

    // A third directory: what is renamed is met, as well.
    Due.done("directory", x, 5, 0, Due.MAKE, 0, 10, 2);
    Due.done("in it", x, 6, 0, Due.MAKE, 5, 11, 2);
    Due.go(x, 0, Due.SYNC);
    fault("a directory goes elsewhere", x, -9, 3, Due.RENAME, 5, 11, 2, 12);
    fault("into itself", x, -9, 2, Due.RENAME, 0, 10, 5, 12);
    Due.done("a file goes", x, 0, 0, Due.RENAME, 2, 7, 5, 12);
    Due.is("both and the file", x.result(0, 4), 3);
    Due.done("so it is empty", x, 0, 0, Due.REMOVE, 0, 6);
    Due.fault("then it is none", x, -2, 0, Due.COUNT, 2);
  }

  /** "at the size (which grows by 2; -7 if it is 384)". */
  private static void inAFullDirectory() {
    ClusterShelf x = new ClusterShelf(2);
    Due.go(x, 0, Due.MAKE, 0, 5, 1);
    Due.go(x, 0, Due.MAKE, 0, 6, 2);
    Due.go(x, 0, Due.MAKE, 0, 7, 2);
    Due.go(x, 0, Due.MAKE, 0, 8, 1);
    Due.is("no inode for the full one", x.result(0, 1), 4);
    for (int i = 0; i < 191; i++) {
      Due.go(x, 0, Due.LINK, FULL, 1000 + i, FILE);
    }
    Due.done("size", x, 382, 0, Due.STAT, FULL, 2);
    Due.done("the last entry", x, 193, 0, Due.LINK, FULL, 1191, FILE);
    Due.done("size", x, 384, 0, Due.STAT, FULL, 2);
    Due.done("24 blocks and an index", x, 25, 0, Due.STAT, FULL, 3);
    Due.go(x, 0, Due.SYNC);
    fault("make: there is one", x, -6, 1, Due.MAKE, FULL, 1000, 1);
    fault("make: no room", x, -7, 3, Due.MAKE, FULL, 77, 1);
    fault("link: there is one, and no file", x, -6, 1, Due.LINK, FULL, 1191, NOTHING);
    fault("link: no file", x, -4, 2, Due.LINK, FULL, 77, DIRECTORY);
    fault("link: no room", x, -7, 2, Due.LINK, FULL, 77, FILE);
    fault("rename: a directory", x, -9, 3, Due.RENAME, 0, 6, FULL, 77);
    fault("rename: there is one", x, -6, 3, Due.RENAME, 0, 5, FULL, 1000);
    fault("rename: no room", x, -7, 3, Due.RENAME, 0, 5, FULL, 77);
    fault("rename within: there is one", x, -6, 1, Due.RENAME, FULL, 1000, FULL, 1191);
    fault("remove: not empty", x, -8, 2, Due.REMOVE, 0, 7);
    Due.done("its own name", x, 0, 0, Due.RENAME, FULL, 1191, FULL, 1191);
    Due.done("within there is room", x, 0, 0, Due.RENAME, FULL, 1191, FULL, 77);
    Due.done("links stay", x, 193, 0, Due.STAT, FILE, 1);
    Due.done("no inode was taken", x, 5, 0, Due.MAKE, 0, 9, 1);

    // One goes: the next one is put there, and the size stays.
    Due.done("one goes", x, 0, 0, Due.REMOVE, FULL, 1000);
    Due.done("191 are left", x, 191, 0, Due.COUNT, FULL);
    Due.fault("no 192nd", x, -3, 0, Due.ENTRY, FULL, 191);
    Due.done("size", x, 384, 0, Due.STAT, FULL, 2);
    Due.done("another one", x, 6, 0, Due.MAKE, FULL, 78, 1);
    Due.done("is the first one", x, 78, 0, Due.ENTRY, FULL, 0);
    Due.done("the last one", x, 77, 0, Due.ENTRY, FULL, 191);
    Due.go(x, 0, Due.SYNC);
    fault("no room again", x, -7, 3, Due.MAKE, FULL, 79, 1);
    Due.is("about(9)", x.about(9), 0);
  }

  /** "-10 if i isn't below its size". */
  private static void behind() {
    ClusterShelf x = tree();
    fault("an empty file", x, -10, 1, Due.READ, 4, 0);
    Due.done("the last word", x, 99, 0, Due.READ, 1, 9);
    fault("the first one behind", x, -10, 1, Due.READ, 1, 10);
    fault("in the next block", x, -10, 1, Due.READ, 1, 16);
    fault("the last one that may be", x, -10, 1, Due.READ, 1, 383);
    Due.done("more", x, 10, 0, Due.CUT, 1, 384);
    Due.done("now it is there", x, 0, 0, Due.READ, 1, 383);
  }

  /** "-7 if none has one": all inodes are used. */
  private static void noInode() {
    ClusterShelf x = new ClusterShelf(2);
    for (int k = 1; k < 128; k++) {
      Due.go(x, 0, Due.MAKE, 0, k, k == 2 ? 2 : 1);
    }
    Due.go(x, 0, Due.SYNC);
    fault("there is one", x, -6, 1, Due.MAKE, 0, 5, 1);
    fault("no directory", x, -2, 1, Due.MAKE, 1, 500, 1);
    fault("no inode, and all maps are met", x, -7, 9, Due.MAKE, 0, 500, 1);
    fault("in another one", x, -7, 9, Due.MAKE, DIRECTORY, 500, 2);
    Due.done("a link needs none", x, 2, 0, Due.LINK, DIRECTORY, 500, 127);
  }

  /** "APPEND k v: -7 if the size is 384; else as WRITE at the size: the place". */
  private static void appendAtTheEnd() {
    ClusterShelf x = tree();
    Due.done("at the size", x, 10, 0, Due.APPEND, 1, -1);
    Due.done("in an empty file", x, 0, 0, Due.APPEND, 4, 5);
    Due.done("its word", x, 5, 0, Due.READ, 4, 0);
    Due.done("to 383", x, 11, 0, Due.CUT, 1, 383);
    Due.done("the last place", x, 383, 0, Due.APPEND, 1, 6);
    Due.done("its word", x, 6, 0, Due.READ, 1, 383);
    Due.go(x, 0, Due.SYNC);
    fault("no room", x, -7, 1, Due.APPEND, 1, 7);
    Due.done("it stays", x, 6, 0, Due.READ, 1, 383);
    Due.done("size", x, 384, 0, Due.STAT, 1, 2);
  }

  /** "the word is what it was and v": it wraps around as ints do. */
  private static void addPastTheGreatest() {
    ClusterShelf x = tree();
    Due.done("the greatest", x, Integer.MAX_VALUE, 0, Due.ADD, 1, 0, Integer.MAX_VALUE);
    Due.done("one more", x, Integer.MIN_VALUE, 0, Due.ADD, 1, 0, 1);
    Due.done("read", x, Integer.MIN_VALUE, 1, Due.READ, 1, 0);
    Due.done("one less", x, Integer.MAX_VALUE, 1, Due.ADD, 1, 0, -1);
    Due.done("twice that", x, -2, 1, Due.ADD, 1, 0, Integer.MAX_VALUE);
    Due.done("the least to itself", x, Integer.MIN_VALUE, 1, Due.WRITE, 1, 0, Integer.MIN_VALUE);
    Due.done("is 0", x, 0, 1, Due.ADD, 1, 0, Integer.MIN_VALUE);
  }

  /** "one link less; with none its blocks are GIVEN BACK". */
  private static void removeOfLinks() {
    ClusterShelf x = tree();
    Due.done("two links", x, 2, 0, Due.LINK, 2, 50, 1);
    Due.done("one link less", x, 0, 0, Due.REMOVE, 0, 5);
    Due.done("the file stays", x, 99, 0, Due.READ, 1, 9);
    Due.done("with one link", x, 1, 0, Due.STAT, 1, 1);
    Due.done("the last one", x, 0, 0, Due.REMOVE, 2, 50);
    Due.fault("nothing", x, -5, 0, Due.STAT, 1, 0);
    Due.done("a directory whose entry went", x, 0, 0, Due.REMOVE, 2, 7);
    Due.done("goes, though it has a size", x, 0, 0, Due.REMOVE, 0, 6);
    Due.done("and its block", x, 375, 0, Due.ROOM);
    Due.go(x, 0, Due.SYNC);
    Due.is("about(9)", x.about(9), 0);
  }
}

/** Section 3: "more than 16 together", SYNC with nothing to wait for, lists and pins at their ends. */
public final class Edges3LogTest {
  public static void main(String[] args) {
    syncOfNothing();
    syncOfAFlush();
    syncOfBoth();
    makesUpToSixteen();
    givenBackDoesNotCount();
    givenBackThatIsNotLogged();
    faultsWithAFullLog();
    emptyList();
    pinsInOrder();
    givesUpWhatIsBehind();
    lowerOneIsAddedLater();
    lowerBlockIsChangedLater();
    Due.end();
  }

  /** File 1 with the name 5, on the disk. */
  private static ClusterShelf file() {
    ClusterShelf x = new ClusterShelf(2);
    Due.go(x, 0, Due.MAKE, 0, 5, 1);
    Due.go(x, 0, Due.SYNC);
    return x;
  }

  private static void write(ClusterShelf x, int... places) {
    for (int place : places) {
      Due.is("write", Due.begin(x, 0, Due.WRITE, 1, 16 * place, place), 1);
    }
  }

  private static void syncOfNothing() {
    ClusterShelf x = new ClusterShelf(2);
    Due.is("nothing was ever changed", Due.begin(x, 0, Due.SYNC), 1);
    Due.is("done", x.result(0, 0), 2);
    Due.is("0", x.result(0, 1), 0);
    Due.is("in no tick", x.result(0, 2), 0);
    Due.is("tried once", x.result(0, 3), 1);
    Due.is("with no list", x.result(0, 4), 0);
    Due.is("no flush", x.node(0, 4), 0);
    Due.is("it changed nothing", x.history(0, 9), 0);
    Due.go(x, 0, Due.MAKE, 0, 5, 1);
    Due.is("another node's log doesn't matter", Due.begin(x, 1, Due.SYNC), 1);
    Due.is("its own does", Due.begin(x, 0, Due.SYNC), 0);
  }

  /** A flush is under way, and the log is empty. */
  private static void syncOfAFlush() {
    ClusterShelf x = new ClusterShelf(2);
    Due.go(x, 0, Due.MAKE, 0, 5, 1);
    Due.begin(x, 1, Due.LOOK, 0, 5);
    x.tick(2);
    Due.is("a flush", x.node(0, 3), 10);
    Due.is("log", x.node(0, 2), 0);
    Due.is("it waits", Due.begin(x, 0, Due.SYNC), 0);
    Due.is("untried", x.result(0, 3), 0);
    Due.is("as long as there is a write", x.tick(9), 0);
    Due.is("then it ends", x.tick(1), 1);
    Due.is("by the one flush", x.node(0, 4), 1);
    Due.is("ticks", x.result(0, 2), 10);
  }

  private static void syncOfBoth() {
    ClusterShelf x = new ClusterShelf(2);
    Due.go(x, 0, Due.MAKE, 0, 5, 1);
    Due.begin(x, 1, Due.LOOK, 0, 5);
    x.tick(2);
    write(x, 0);
    Due.is("log: map, inode, block", x.node(0, 2), 3);
    Due.is("it waits", Due.begin(x, 0, Due.SYNC), 0);
    Due.is("no other flush yet", x.node(0, 4), 1);
    Due.is("the first one", x.tick(10), 0);
    Due.is("the second one began", x.node(0, 4), 2);
    Due.is("nothing of it is written", x.node(0, 3), 9);
    Due.is("the second one", x.tick(8), 0);
    Due.is("its last write", x.tick(1), 1);
    Due.is("ticks", x.result(0, 2), 19);
    Due.is("tried once", x.result(0, 3), 1);
  }

  /** Twelve files of the root are 16 blocks: map, root, its two blocks, and the inodes. */
  private static void makesUpToSixteen() {
    ClusterShelf x = new ClusterShelf(2);
    for (int k = 1; k <= 12; k++) {
      Due.is("make", Due.go(x, 0, Due.MAKE, 0, k, 1), k);
    }
    Due.is("16 fit", x.node(0, 2), 16);
    Due.is("no flush", x.node(0, 4), 0);
    Due.is("the 13th", Due.begin(x, 0, Due.MAKE, 0, 13, 1), 0);
    x.tick(1);
    Due.is("it waits for its inode", x.lock(0, 13, 1), 2);
    Due.is("no flush", x.node(0, 4), 0);
    x.tick(1);
    Due.is("its inode came", x.lock(0, 13, 0), 2);
    Due.is("17 don't fit: a flush, and one write of it", x.node(0, 3), 34);
    Due.is("log", x.node(0, 2), 0);
    Due.is("undone", x.cached(0, 128, 0), 8191);
    Due.is("undone", x.cached(0, 129, 2), 24);
    Due.is("tries", x.result(0, 3), 4);
    Due.is("its list stays", x.result(0, 4), 3);
    Due.is("it waits for the last write", x.tick(33), 0);
    Due.is("then it ends", x.tick(1), 1);
    Due.is("with", x.result(0, 1), 13);
    Due.is("tries", x.result(0, 3), 5);
    Due.is("ticks", x.result(0, 2), 36);
    Due.is("map, root, block, inode", x.node(0, 2), 4);
    Due.is("no further flush", x.node(0, 4), 1);
  }

  /** "without those given back": one of the log goes, another one comes. */
  private static void givenBackDoesNotCount() {
    ClusterShelf x = file();
    write(x, 12);
    Due.go(x, 0, Due.SYNC);
    write(x, 0, 1, 2, 3, 4, 5, 6, 7, 8, 9, 10, 11, 13);
    Due.is("full", x.node(0, 2), 16);
    int flushes = x.node(0, 4);
    Due.is("13 goes, 12 is changed", Due.begin(x, 0, Due.CUT, 1, 16 * 12 + 5), 1);
    Due.is("full", x.node(0, 2), 16);
    Due.is("no flush", x.node(0, 4), flushes);
    Due.is("one more is too much", Due.begin(x, 0, Due.RENAME, 0, 5, 0, 6), 0);
    Due.is("a flush", x.node(0, 4), flushes + 1);
    Due.is("it ends", x.tick(35), 1);
    Due.is("about(9)", x.about(9), 0);
  }

  /** What goes was not in the log, so it makes no room there. */
  private static void givenBackThatIsNotLogged() {
    ClusterShelf x = file();
    write(x, 12, 13);
    Due.go(x, 0, Due.SYNC);
    write(x, 0, 1, 2, 3, 4, 5, 6, 7, 8, 9, 10, 11);
    Due.is("log", x.node(0, 2), 15);
    Due.is("the root's block", Due.begin(x, 0, Due.RENAME, 0, 5, 0, 6), 1);
    Due.is("full", x.node(0, 2), 16);
    Due.is("13 goes, 12 is changed", Due.begin(x, 0, Due.CUT, 1, 16 * 12 + 5), 0);
    Due.is("all are in a flush", x.node(0, 3), 35);
    int block = x.word(x.word(130, 11), 5);
    Due.is("what it gave back is there still", x.cached(0, block, 0), 13);
    Due.is("it ends", x.tick(35), 1);
    Due.nsee("now it went", () -> x.cached(0, block, 0));
    Due.is("inode, map, index, block", x.node(0, 2), 4);
  }

  /** "(done, or with a fault: then it changed nothing)". */
  private static void faultsWithAFullLog() {
    ClusterShelf x = file();
    write(x, 0, 1, 2, 3, 4, 5, 6, 7, 8, 9, 10, 11);
    Due.is("log", x.node(0, 2), 15);
    write(x, 12);
    int flushes = x.node(0, 4);
    Due.is("a fault", Due.begin(x, 0, Due.MAKE, 0, 5, 1), 1);
    Due.is("is answered", x.result(0, 1), -6);
    Due.is("another one", Due.begin(x, 0, Due.RENAME, 0, 9, 0, 5), 1);
    Due.is("is answered", x.result(0, 1), -3);
    Due.is("what is read", Due.begin(x, 0, Due.READ, 1, 16 * 12), 1);
    Due.is("is answered", x.result(0, 1), 12);
    Due.is("a block of the log again", Due.begin(x, 0, Due.ADD, 1, 16 * 12, 5), 1);
    Due.is("is answered", x.result(0, 1), 17);
    Due.is("the log is full", x.node(0, 2), 16);
    Due.is("and stays", x.node(0, 4), flushes);
  }

  /** "A call has a LIST .., empty at first": so it is tried at once, and its first resource is met. */
  private static void emptyList() {
    ClusterShelf x = new ClusterShelf(2);
    Due.begin(x, 0, Due.COUNT, 0);
    Due.is("tried", x.result(0, 3), 1);
    Due.is("list", x.result(0, 4), 1);
    Due.is("nothing is read", x.node(0, 5), 0);
    x.tick(2);
    Due.is("tried again", x.result(0, 3), 2);
    Due.begin(x, 0, Due.COUNT, 0);
    Due.is("held, but not pinned: twice again", x.result(0, 3), 2);
    Due.is("ended", x.result(0, 0), 2);
    Due.begin(x, 0, Due.ROOM);
    x.tick(100);
    Due.is("once for each map, and once more", x.result(0, 3), 9);
    Due.is("list", x.result(0, 4), 8);
  }

  /** "At the first one that isn't PINNED the call waits", and asks for no other one. */
  private static void pinsInOrder() {
    ClusterShelf x = new ClusterShelf(3);
    Due.go(x, 1, Due.MAKE, 0, 5, 1);
    Due.go(x, 1, Due.MAKE, 0, 6, 2);
    Due.go(x, 1, Due.SYNC);
    // Node 0 knows 0, 2 and 1; node 1 takes 0 away meanwhile.
    Due.begin(x, 0, Due.RENAME, 0, 5, 2, 7);
    for (int t = 0; t < 50 && x.result(0, 4) < 3; t++) {
      x.tick(1);
    }
    Due.is("0 and 2 alone, 1 shared", x.lock(0, 0, 3) + x.lock(0, 2, 3) + x.lock(0, 1, 3), 5);
    Due.is("0 is pinned, and 1 is asked for", x.lock(0, 1, 1), 1);
    Due.is("2 is behind it, and held", x.lock(0, 2, 0), 2);
    Due.begin(x, 2, Due.COUNT, 2);
    x.tick(2);
    Due.is("it isn't pinned, so it goes down", x.lock(0, 2, 0), 1);
    Due.is("and isn't asked for yet", x.lock(0, 2, 1), 0);
    Due.is("0 stays", x.lock(0, 0, 0), 2);
    for (int t = 0; t < 50 && x.result(0, 0) == 1; t++) {
      x.tick(1);
    }
    Due.is("done", x.result(0, 0), 2);
    Due.is("with", x.result(0, 1), 0);
  }

  /** Of two that want the same resources each waits with lower ones alone, so both come to an end. */
  private static void givesUpWhatIsBehind() {
    for (int slow = 1; slow <= 20; slow++) {
      ClusterShelf x = new ClusterShelf(2);
      Due.go(x, 0, Due.MAKE, 0, 5, 2);
      Due.go(x, 0, Due.MAKE, 0, 6, 2);
      Due.go(x, 0, Due.MAKE, 1, 7, 1);
      Due.go(x, 0, Due.MAKE, 2, 8, 1);
      x.delay(slow % 2, 1 - slow % 2, slow);
      Due.begin(x, 0, Due.RENAME, 1, 7, 2, 9);
      Due.begin(x, 1, Due.RENAME, 2, 8, 1, 9);
      for (int t = 0; t < 5; t++) {
        x.tick(100);
      }
      Due.is("node 0", x.result(0, 0), 2);
      Due.is("node 1", x.result(1, 0), 2);
      Due.is("7 is 2's 9", Due.go(x, 0, Due.LOOK, 2, 9), 3);
      Due.is("8 is 1's 9", Due.go(x, 0, Due.LOOK, 1, 9), 4);
    }
  }

  /** "in the order of their numbers", also of one that is met behind a greater one. */
  private static void lowerOneIsAddedLater() {
    ClusterShelf x = new ClusterShelf(2);
    Due.go(x, 0, Due.MAKE, 0, 5, 1);
    Due.go(x, 0, Due.MAKE, 0, 6, 2);
    Due.go(x, 0, Due.LINK, 2, 7, 1);
    Due.go(x, 0, Due.SYNC);
    Due.begin(x, 1, Due.REMOVE, 2, 7);
    for (int t = 0; t < 20 && x.result(1, 4) < 2; t++) {
      x.tick(1);
    }
    Due.is("2 is held", x.lock(1, 2, 0), 2);
    Due.is("1 is asked for", x.lock(1, 1, 1), 2);
    Due.begin(x, 0, Due.COUNT, 2);
    x.tick(2);
    Due.is("1 isn't there yet", x.lock(1, 1, 0), 0);
    Due.is("2 is behind it, not pinned, and went down", x.lock(1, 2, 0), 1);
    x.tick(20);
    Due.is("it ends", x.result(1, 0), 2);
    Due.is("and the other one", x.result(0, 0), 2);
  }

  /** "in the order of the blocks' numbers", also of one that is changed behind a greater one. */
  private static void lowerBlockIsChangedLater() {
    ClusterShelf x = file();
    write(x, 0);
    Due.go(x, 0, Due.SYNC);
    Due.is("block 146 alone", Due.begin(x, 0, Due.WRITE, 1, 0, 5), 1);
    Due.is("log", x.node(0, 2), 1);
    Due.is("then the inode, too", Due.begin(x, 0, Due.WRITE, 1, 1, 6), 1);
    Due.is("then the root's block", Due.begin(x, 0, Due.RENAME, 0, 5, 0, 6), 1);
    Due.is("log", x.node(0, 2), 3);
    Due.go(x, 0, Due.SYNC);
    int[] table = {130, 145, 146, 0};
    for (int j = 0; j < table.length; j++) {
      Due.is("table " + j, x.word(2, j), table[j]);
    }
    Due.is("image of the inode", x.word(3, 2), 2);
    Due.is("image of the root's block", x.word(4, 0), 6);
    Due.is("image of the file's block", x.word(5, 1), 6);
  }
}

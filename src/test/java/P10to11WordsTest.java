/** Promises 10 and 11: words of the disk, and of a node's cache. */
public final class P10to11WordsTest {
  public static void main(String[] args) {
    ClusterShelf x = new ClusterShelf(2);
    int[] min = {-1, Integer.MIN_VALUE};
    for (int bad : min) {
      Due.ioobe("block " + bad, () -> x.word(bad, 0));
      Due.ioobe("word " + bad, () -> x.word(0, bad));
      Due.ioobe("cached block " + bad, () -> x.cached(0, bad, 0));
      Due.ioobe("cached word " + bad, () -> x.cached(0, 0, bad));
      Due.iae("cached node " + bad, () -> x.cached(bad, 0, 0));
    }
    for (int bad : new int[] {640, Integer.MAX_VALUE}) {
      Due.ioobe("block " + bad, () -> x.word(bad, 0));
      Due.ioobe("cached block " + bad, () -> x.cached(0, bad, 0));
    }
    for (int bad : new int[] {16, Integer.MAX_VALUE}) {
      Due.ioobe("word " + bad, () -> x.word(639, bad));
      Due.ioobe("cached word " + bad, () -> x.cached(0, 639, bad));
    }
    Due.iae("cached node 2, ahead of the word", () -> x.cached(2, -1, 0));
    Due.is("last word", x.word(639, 15), 0);
    Due.is("first word", x.word(0, 0), 7177);
    Due.nsee("not in the cache", () -> x.cached(0, 129, 0));
    changes();
    Due.end();
  }

  private static void changes() {
    ClusterShelf x = new ClusterShelf(2);
    Due.done("stat", x, 2, 0, Due.STAT, 0, 0);
    for (int w = 0; w < 16; w++) {
      Due.is("as it was on the disk", x.cached(0, 129, w), x.word(129, w));
    }
    Due.nsee("not in the other's cache", () -> x.cached(1, 129, 0));
    Due.nsee("no other block", () -> x.cached(0, 128, 0));
    Due.done("make", x, 1, 0, Due.MAKE, 0, 5, 1);
    Due.is("name in the cache", x.cached(0, 145, 0), 5);
    Due.is("not on the disk", x.word(145, 0), 0);
    Due.done("sync", x, 0, 0, Due.SYNC);
    Due.is("on the disk", x.word(145, 0), 5);
    Due.is("still in the cache", x.cached(0, 145, 0), 5);
    Due.done("the other one reads", x, 1, 1, Due.LOOK, 0, 5);
    Due.is("in its cache", x.cached(1, 145, 1), 1);
    x.crash(1, 0);
    Due.nsee("it is down", () -> x.cached(1, 145, 1));
    Due.ioobe("no such word ahead of that", () -> x.cached(1, 640, 1));
  }
}

/** The example of README.md, with what its comments say. */
public final class ReadmeTest {
  public static void main(String[] args) {
    ClusterShelf shelf = new ClusterShelf(3);
    Due.is("MAKE", shelf.call(0, 1, 0, 5, 1, 0), 0);
    Due.is("seven ticks", shelf.tick(7), 1);
    int inode = shelf.result(0, 1);
    Due.is("the inode", inode, 1);
    Due.is("WRITE", shelf.call(0, 6, inode, 3, 99, 0), 1);
    Due.is("READ", shelf.call(1, 5, inode, 3, 0, 0), 0);
    Due.is("forty ticks", shelf.tick(40), 1);
    Due.is("the word", shelf.result(1, 1), 99);
    shelf.crash(0, 0);
    shelf.recover(0);
    shelf.start(0);
    Due.is("up again", shelf.node(0, 0), 1);
    Due.is("nothing is wrong", shelf.about(9), 0);
    Due.end();
  }
}

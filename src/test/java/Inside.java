import java.lang.reflect.Field;
import java.lang.reflect.Method;

/**
 * What no run of calls brings about, but a sentence of the document tells of: words of the disk that
 * are wrong, and a message that no master sends. It reaches into the object for that.
 */
final class Inside {
  private Inside() {}

  private static Object part(Object of, String name) throws ReflectiveOperationException {
    Field field = of.getClass().getDeclaredField(name);
    field.setAccessible(true);
    return field.get(of);
  }

  /** The words of the disk, 16 of each block. */
  static int[] disk(ClusterShelf x) {
    try {
      return (int[]) part(part(x, "world"), "disk");
    } catch (ReflectiveOperationException e) {
      throw new IllegalStateException(e);
    }
  }

  /** A CALL BACK is sent now. */
  static void callBack(ClusterShelf x, int from, int to, int resource, int mode) {
    try {
      Object post = part(x, "post");
      Method send = post.getClass().getDeclaredMethod(
          "send", int.class, int.class, int.class, int.class, int.class);
      send.setAccessible(true);
      send.invoke(post, from, to, 2, resource, mode);
    } catch (ReflectiveOperationException e) {
      throw new IllegalStateException(e);
    }
  }
}

import java.lang.reflect.Array;
import java.lang.reflect.Field;
import java.lang.reflect.Modifier;
import java.util.ArrayDeque;
import java.util.Collections;
import java.util.Deque;
import java.util.IdentityHashMap;
import java.util.Set;

/** An object is small, and stays so: what it holds is made when it is made, and used again. */
public final class RoomTest {
  private static final int OBJECTS = 200;
  private static final int ELEMENTS = 120000;

  private final Set<Object> known = Collections.newSetFromMap(new IdentityHashMap<>());
  private final Deque<Object> open = new ArrayDeque<>();
  private int elements;

  public static void main(String[] args) {
    ClusterShelf x = new ClusterShelf(4);
    int before = check("new", x);
    for (int i = 0; i < 120; i++) {
      int node = i % 4;
      Due.go(x, node, Due.MAKE, 0, i + 1, 1);
      Due.go(x, node, Due.WRITE, i + 1, 300, i);
    }
    int after = check("used", x);
    Due.is("what is held grows", after - before > 5000 ? 1 : 0, 0);
    Due.end();
  }

  private static int check(String what, ClusterShelf x) {
    RoomTest room = new RoomTest();
    room.reach(x);
    while (!room.open.isEmpty()) {
      room.enter(room.open.remove());
    }
    Due.is(what + ": too many objects, " + room.known.size(), room.known.size() > OBJECTS ? 1 : 0, 0);
    Due.is(what + ": too many elements, " + room.elements, room.elements > ELEMENTS ? 1 : 0, 0);
    return room.elements;
  }

  private void reach(Object object) {
    if (object != null && known.add(object)) {
      open.add(object);
    }
  }

  private void enter(Object object) {
    if (!object.getClass().isArray()) {
      enterFields(object);
      return;
    }
    int length = Array.getLength(object);
    elements += length;
    if (!object.getClass().getComponentType().isPrimitive()) {
      for (int i = 0; i < length; i++) {
        reach(Array.get(object, i));
      }
    }
  }

  private void enterFields(Object object) {
    for (Field field : object.getClass().getDeclaredFields()) {
      if (Modifier.isStatic(field.getModifiers())) {
        continue;
      }
      elements++;
      if (!field.getType().isPrimitive()) {
        try {
          field.setAccessible(true);
          reach(field.get(object));
        } catch (IllegalAccessException e) {
          throw new IllegalStateException(e);
        }
      }
    }
  }
}

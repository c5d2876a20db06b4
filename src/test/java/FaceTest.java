import java.lang.reflect.Constructor;
import java.lang.reflect.Field;
import java.lang.reflect.Member;
import java.lang.reflect.Method;
import java.lang.reflect.Modifier;
import java.util.ArrayList;
import java.util.Arrays;
import java.util.HashSet;
import java.util.List;
import java.util.Set;

/** The public face: all that the document tells of it, with its exceptions in their order, and no more. */
public final class FaceTest {
  private static final String A = "IllegalArgumentException";
  private static final String S = "IllegalStateException";
  private static final String I = "IndexOutOfBoundsException";
  private static final String E = "NoSuchElementException";
  private static final String[] METHODS = {
    "int call(6) " + A + " " + S,
    "void delay(3) " + A,
    "int tick(1) " + A,
    "void crash(2) " + A + " " + S,
    "int recover(1) " + A + " " + S,
    "void start(1) " + A + " " + S,
    "int result(2) " + A,
    "int history(2) " + I + " " + A,
    "int word(2) " + I,
    "int cached(3) " + A + " " + I + " " + E,
    "int lock(3) " + A,
    "int row(2) " + A,
    "int message(2) " + I + " " + A,
    "int node(2) " + A,
    "int about(1) " + A,
  };

  private final Set<String> publicNames = new HashSet<>();

  public static void main(String[] args) {
    new FaceTest().check();
    Due.end();
  }

  private void check() {
    Class<?> face = ClusterShelf.class;
    Due.is("public and final", face.getModifiers(), Modifier.PUBLIC | Modifier.FINAL);
    Due.same("no package: " + face.getName(), face.getName(), "ClusterShelf");
    Due.is("no class above it", face.getSuperclass() == Object.class ? 1 : 0, 1);
    Due.is("no interfaces", face.getInterfaces().length, 0);
    constructor(face);
    constant(face);
    methods(face);
    inside(face);
  }

  private static void constructor(Class<?> face) {
    Constructor<?>[] all = face.getDeclaredConstructors();
    Due.is("one constructor", all.length, 1);
    Due.is("it is public", all[0].getModifiers(), Modifier.PUBLIC);
    Due.is("it takes an int", Arrays.equals(all[0].getParameterTypes(), new Class<?>[] {int.class}) ? 1 : 0, 1);
    Due.is("it throws nothing", all[0].getExceptionTypes().length, 0);
  }

  private static void constant(Class<?> face) {
    for (Field field : face.getDeclaredFields()) {
      boolean isFace = field.getName().equals("NONE");
      Due.is(field.getName() + " is seen", isPrivate(field) ? 0 : 1, isFace ? 1 : 0);
      if (isFace) {
        Due.is("NONE", field.getModifiers(), Modifier.PUBLIC | Modifier.STATIC | Modifier.FINAL);
        Due.is("NONE is an int", field.getType() == int.class ? 1 : 0, 1);
      }
    }
    Due.is("NONE's value", ClusterShelf.NONE, -1);
  }

  private void methods(Class<?> face) {
    List<String> seen = new ArrayList<>();
    for (Method method : face.getDeclaredMethods()) {
      if (!isPrivate(method)) {
        seen.add(told(method));
        publicNames.add(method.getName());
        Due.is(method.getName() + " is public alone", method.getModifiers(), Modifier.PUBLIC);
      }
    }
    for (String method : METHODS) {
      Due.is(method + " is there", seen.remove(method) ? 1 : 0, 1);
    }
    Due.is("others " + seen, seen.size(), 0);
  }

  private static String told(Method method) {
    StringBuilder text = new StringBuilder();
    text.append(method.getReturnType().getName()).append(' ').append(method.getName());
    text.append('(').append(method.getParameterCount()).append(')');
    for (Class<?> type : method.getParameterTypes()) {
      Due.is(method.getName() + " takes ints", type == int.class ? 1 : 0, 1);
    }
    for (Class<?> exception : method.getExceptionTypes()) {
      text.append(' ').append(exception.getSimpleName());
    }
    return text.toString();
  }

  /** The classes inside are static and not public, and no private method has a public one's name. */
  private void inside(Class<?> face) {
    for (Method method : face.getDeclaredMethods()) {
      if (isPrivate(method)) {
        Due.is("private " + method.getName(), publicNames.contains(method.getName()) ? 1 : 0, 0);
      }
    }
    for (Class<?> inner : face.getDeclaredClasses()) {
      int modifiers = inner.getModifiers();
      Due.is(inner.getName() + " is static", Modifier.isStatic(modifiers) ? 1 : 0, 1);
      Due.is(inner.getName() + " is seen", modifiers & (Modifier.PUBLIC | Modifier.PROTECTED), 0);
    }
  }

  private static boolean isPrivate(Member member) {
    return Modifier.isPrivate(member.getModifiers());
  }
}

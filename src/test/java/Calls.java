import java.lang.reflect.InvocationTargetException;
import java.lang.reflect.Method;
import java.lang.reflect.Modifier;
import java.util.Set;
import java.util.TreeMap;

/** Calls of the class's methods by their names. */
final class Calls {

  private static final TreeMap<String, Method> METHODS = new TreeMap<>();

  static {
    for (Method method : Rowsorter.class.getDeclaredMethods()) {
      if (Modifier.isPublic(method.getModifiers())) {
        METHODS.put(method.getName(), method);
      }
    }
  }

  private Calls() {}

  static Set<String> names() {
    return METHODS.keySet();
  }

  /** The answer of a call, or the class of the exception that it throws. */
  static Object answer(Rowsorter x, String name, int[] values) {
    Object[] boxed = new Object[values.length];
    for (int i = 0; i < values.length; i++) {
      boxed[i] = values[i];
    }
    try {
      return METHODS.get(name).invoke(x, boxed);
    } catch (InvocationTargetException e) {
      return e.getCause().getClass();
    } catch (IllegalAccessException e) {
      throw new IllegalStateException("not public: " + name);
    }
  }

  static String told(String name, int[] values) {
    StringBuilder line = new StringBuilder(name).append('(');
    for (int i = 0; i < values.length; i++) {
      line.append(i > 0 ? ", " : "").append(values[i]);
    }
    return line.append(')').toString();
  }
}

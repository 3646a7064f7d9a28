import java.lang.reflect.InvocationTargetException;
import java.lang.reflect.Method;
import java.util.HashMap;
import java.util.Map;

/** Calls by name, of Genericwood and of the model alike. */
final class Calls {
  private static final Map<String, Method> known = new HashMap<>();

  private Calls() {}

  /** What a call answers, or a text that tells what it throws. */
  static Object answer(Object on, String name, Object... with) {
    try {
      return method(on.getClass(), name).invoke(on, with);
    } catch (InvocationTargetException e) {
      return "throws " + e.getCause().getClass().getName();
    } catch (IllegalAccessException e) {
      throw new IllegalStateException(e);
    }
  }

  private static Method method(Class<?> in, String name) {
    return known.computeIfAbsent(in.getName() + "." + name, key -> find(in, name));
  }

  private static Method find(Class<?> in, String name) {
    for (Method method : in.getMethods()) {
      if (method.getName().equals(name) && method.getDeclaringClass() == in) return method;
    }
    throw new IllegalStateException(name);
  }
}

import java.lang.reflect.InvocationTargetException;
import java.lang.reflect.Method;
import java.lang.reflect.Modifier;
import java.util.ArrayList;
import java.util.List;
import java.util.Map;
import java.util.TreeMap;

/** The calls of the face, by their names. */
final class Face {
  private static final Map<String, Method> CALLS = calls();

  private Face() {}

  private static Map<String, Method> calls() {
    Map<String, Method> calls = new TreeMap<>();
    for (Method method : Loopdefaults.class.getDeclaredMethods()) {
      if (Modifier.isPublic(method.getModifiers())) {
        calls.put(method.getName(), method);
      }
    }
    return calls;
  }

  /** All public methods, by name. */
  static List<Method> all() {
    return new ArrayList<>(CALLS.values());
  }

  static Method named(String name) {
    Method found = CALLS.get(name);
    if (found == null) {
      throw new IllegalStateException("there is no call " + name);
    }
    return found;
  }

  /** What the call tells, or the name of what it throws; on may be an object or a model. */
  static Object answer(Object on, Method method, Object[] with) throws Exception {
    Method own =
        on instanceof Model
            ? Model.class.getDeclaredMethod(method.getName(), method.getParameterTypes())
            : method;
    try {
      return own.invoke(on, with);
    } catch (InvocationTargetException thrown) {
      return thrown.getCause().getClass().getName();
    }
  }

  /** What a written call, as "type(0, 5)", tells: 1, true, "a text" or: throws, and a name. */
  static String told(Loopdefaults x, String call) throws Exception {
    int open = call.indexOf('(');
    if (open < 0 || !call.endsWith(")")) {
      throw new IllegalStateException("this is no call: " + call);
    }
    Method method = named(call.substring(0, open));
    Object got = answer(x, method, arguments(call.substring(open + 1, call.length() - 1)));
    if (got instanceof String && got.toString().startsWith("java.")) {
      return "throws " + got.toString().replaceAll(".*\\.", "");
    }
    return got instanceof String ? "\"" + got + "\"" : got.toString();
  }

  private static Object[] arguments(String written) {
    List<Object> with = new ArrayList<>();
    for (String word : written.isEmpty() ? new String[0] : written.split(", ")) {
      boolean isFlag = word.equals("true") || word.equals("false");
      with.add(isFlag ? (Object) Boolean.valueOf(word) : (Object) Integer.valueOf(word));
    }
    return with.toArray();
  }
}

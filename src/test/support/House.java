import java.lang.reflect.InvocationTargetException;
import java.lang.reflect.Method;
import java.util.HashMap;
import java.util.Map;

/** A SprinklerHouse whose calls are told as texts, written as in Java: pipe(-1, 10, 0). */
final class House {
  /** What an object answers after so many calls is free, so no test may rest on it. */
  static final int MOST_CALLS = 512;
  private static final Map<String, Method> FACE = face();

  private final SprinklerHouse house = new SprinklerHouse();
  private int calls = 0;

  private static Map<String, Method> face() {
    Map<String, Method> face = new HashMap<>();
    for (Method m : SprinklerHouse.class.getMethods())
      if (m.getDeclaringClass() == SprinklerHouse.class) face.put(m.getName(), m);
    return face;
  }

  long call(String text) {
    if (++calls > MOST_CALLS) throw new IllegalStateException("too many calls of one house: " + text);
    int bracket = text.indexOf('(');
    Method m = FACE.get(text.substring(0, bracket).trim());
    String inside = text.substring(bracket + 1, text.lastIndexOf(')')).trim();
    String[] words = inside.isEmpty() ? new String[0] : inside.split("\\s*,\\s*");
    if (m == null || m.getParameterCount() != words.length) throw new IllegalStateException("no such call: " + text);
    Object[] values = new Object[words.length];
    for (int i = 0; i < words.length; i++) values[i] = value(words[i], m.getParameterTypes()[i]);
    try {
      return ((Number) m.invoke(house, values)).longValue();
    } catch (InvocationTargetException thrown) {
      throw new IllegalStateException(text + " has thrown", thrown.getCause());
    } catch (IllegalAccessException e) {
      throw new IllegalStateException(text, e);
    }
  }

  private static Object value(String word, Class<?> type) {
    if (type == boolean.class) {
      if (!word.equals("true") && !word.equals("false")) throw new IllegalStateException("no boolean: " + word);
      return word.equals("true");
    }
    if (word.equals("MIN")) return Integer.MIN_VALUE;
    if (word.equals("MAX")) return Integer.MAX_VALUE;
    return Integer.parseInt(word);
  }
}

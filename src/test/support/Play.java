import java.lang.reflect.InvocationTargetException;
import java.lang.reflect.Method;
import java.lang.reflect.Modifier;
import java.util.HashMap;
import java.util.Map;

/** A new object under test: its calls are given as text, and their answers compared with those due. */
final class Play {
  static final int UNKNOWN = -1001;
  static final int BAD = -1002;
  static final int STATE = -1003;
  static final int FULL = -1004;
  static final int NONE = -1000;
  static final int MIN = Integer.MIN_VALUE;
  static final int MAX = Integer.MAX_VALUE;

  /** What an object answers behind so many calls is free, so no test may lean on it. */
  private static final int MOST_CALLS = 512;
  private static final Map<String, Method> FACE = face();
  private static String sentence = "";
  private static int asked = 0;
  private static int wrong = 0;

  private final WaysKept kept = new WaysKept();
  private int calls = 0;

  /** The words of the document that the next answers hold the class to. */
  static void sentence(String words) {
    sentence = words;
  }

  static String call(String name, Object... given) {
    StringBuilder text = new StringBuilder(name).append('(');
    for (int i = 0; i < given.length; i++) {
      text.append(i == 0 ? "" : ", ").append(given[i]);
    }
    return text.append(')').toString();
  }

  /** An object behind these calls. */
  static Play of(String... calls) {
    return new Play().after(calls);
  }

  /** Calls that must be taken: one that is refused is wrong. */
  Play after(String... calls) {
    for (String each : calls) {
      int got = answer(each);
      if (got <= UNKNOWN) {
        miss(each + " was refused with " + got);
      }
    }
    return this;
  }

  Play due(String call, int want) {
    int got = answer(call);
    asked++;
    if (got != want) {
      miss(call + " answered " + got + ", due is " + want);
    }
    return this;
  }

  Play due(int want, String... calls) {
    for (String each : calls) {
      due(each, want);
    }
    return this;
  }

  int answer(String call) {
    calls++;
    if (calls == MOST_CALLS + 1) {
      miss("the test makes more than " + MOST_CALLS + " calls: " + call);
    }
    String name = call.substring(0, call.indexOf('('));
    String inside = call.substring(call.indexOf('(') + 1, call.length() - 1);
    String[] given = inside.isEmpty() ? new String[0] : inside.split(", ");
    Method method = FACE.get(name);
    Object[] arguments = new Object[given.length];
    for (int i = 0; i < given.length; i++) {
      arguments[i] = method.getParameterTypes()[i] == boolean.class ? (Object) truth(given[i]) : number(given[i]);
    }
    try {
      return (Integer) method.invoke(kept, arguments);
    } catch (IllegalAccessException | InvocationTargetException thrown) {
      throw new IllegalStateException(call + " threw", thrown);
    }
  }

  static void miss(String what) {
    wrong++;
    if (wrong <= 50) {
      System.out.println("\"" + sentence + "\": " + what);
    }
  }

  static void finish() {
    System.out.println(asked + " answers looked at, " + wrong + " wrong");
    if (wrong != 0 || asked == 0) {
      System.exit(1);
    }
  }

  private static Map<String, Method> face() {
    Map<String, Method> face = new HashMap<>();
    for (Method method : WaysKept.class.getDeclaredMethods()) {
      if (Modifier.isPublic(method.getModifiers())) {
        face.put(method.getName(), method);
      }
    }
    return face;
  }

  private static boolean truth(String word) {
    if (!word.equals("true") && !word.equals("false")) {
      throw new IllegalArgumentException(word);
    }
    return word.equals("true");
  }

  private static int number(String word) {
    return word.equals("MIN") ? MIN : word.equals("MAX") ? MAX : Integer.parseInt(word);
  }
}

import java.lang.reflect.InvocationTargetException;
import java.lang.reflect.Method;
import java.lang.reflect.Modifier;

/** No call throws, whatever it is given, in an empty object, a full one and those between. */
public final class HostileArguments {
  private static final int[] NUMBERS = {
    Integer.MIN_VALUE, Integer.MIN_VALUE + 1, -1001, -1000, -501, -51, -1, 0, 1, 2, 5, 9, 10, 39, 40, 99, 400, 401,
    1023, 1024, Integer.MAX_VALUE - 1, Integer.MAX_VALUE
  };
  private static int wrong = 0;
  private static long calls = 0;

  public static void main(String[] args) throws IllegalAccessException {
    for (Method method : WaysKept.class.getDeclaredMethods()) {
      if (Modifier.isPublic(method.getModifiers())) {
        for (int state = 0; state < 4; state++) {
          tryAll(method, inState(state), new Object[method.getParameterCount()], 0);
        }
      }
    }
    System.out.println(calls + " calls, " + wrong + " threw");
    if (wrong != 0 || calls == 0) {
      System.exit(1);
    }
  }

  private static WaysKept inState(int state) {
    WaysKept kept = new WaysKept();
    if (state == 0) {
      return kept;
    }
    kept.posts(state == 1 ? 2 : 10);
    int posts = kept.count(0);
    int lines = state == 1 ? 3 : 40;
    for (int line = 0; line < lines; line++) {
      kept.line(line % posts, (line + 1 + line / posts) % posts, line % 3 - 1 + line % 2, line % 5 == 0);
    }
    for (int act = 0; state == 3 && act < 400; act++) {
      kept.price(act % 40, 1 + act % 7);
    }
    kept.marks(posts == 10 ? 1023 : 3);
    return kept;
  }

  private static void tryAll(Method method, WaysKept kept, Object[] given, int at) throws IllegalAccessException {
    if (at == given.length) {
      call(method, kept, given);
    } else if (method.getParameterTypes()[at] == boolean.class) {
      for (int both = 0; both < 2; both++) {
        given[at] = both == 1;
        tryAll(method, kept, given, at + 1);
      }
    } else {
      for (int number : NUMBERS) {
        given[at] = number;
        tryAll(method, kept, given, at + 1);
      }
    }
  }

  private static void call(Method method, WaysKept kept, Object[] given) throws IllegalAccessException {
    calls++;
    try {
      method.invoke(kept, given);
    } catch (InvocationTargetException thrown) {
      wrong++;
      if (wrong < 20) {
        System.out.println(method.getName() + java.util.Arrays.toString(given) + " threw " + thrown.getCause());
      }
    }
  }
}

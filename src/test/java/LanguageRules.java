import java.io.IOException;
import java.lang.reflect.Constructor;
import java.lang.reflect.Field;
import java.lang.reflect.Method;
import java.lang.reflect.Modifier;
import java.nio.charset.StandardCharsets;
import java.nio.file.Files;
import java.nio.file.Paths;
import java.util.ArrayList;
import java.util.Arrays;
import java.util.List;
import java.util.Set;
import java.util.TreeSet;
import java.util.regex.Matcher;
import java.util.regex.Pattern;

/** What of the rules of the language can be seen in the class and in its source (args[0]). */
public final class LanguageRules {
  private static final String[] FACE = {
    "posts(int)", "line(int,int,int,boolean)", "price(int,int)", "cut(int)", "back(int)", "told(int,int)",
    "far(int,int)", "steps(int,int)", "way(int,int,int)", "without(int,int,int)", "vital(int,int,int)",
    "about(int,int,int)", "ring()", "height(int)", "acts()", "moved(int)", "pair(int,int)",
    "then(int,int,int)", "since(int,int,int,int)", "marks(int)", "near(int,int)", "worst()", "hits(int)",
    "count(int)"
  };
  private static final String[] CONSTANTS = {"BAD", "FULL", "NONE", "STATE", "UNKNOWN"};
  private static final String[] FORBIDDEN = {
    "\\bthrow\\b", "\\bthrows\\b", "\\btry\\b", "\\bcatch\\b", "\\bsynchronized\\b", "\\bassert\\b", "\\bpackage\\b",
    "->", "::", "\\bprotected\\b", "\\bException\\b", "\\bError\\b", "\\w+Exact\\b", "\\bObject\\b", "\\bSystem\\.(?!arraycopy\\b)",
    "\\bThread\\b", "\\bnew \\w+\\s*\\([^;]*\\)\\s*\\{", "\\bstatic\\s*\\{", "\\bwhile\\s*\\(\\s*true", "\\bhashCode\\b",
    "\\btoString\\b", "\\bequals\\b", "\\bfloat\\b", "\\bdouble\\b", "\\bvar\\b", "\\?\\s*extends", "@\\w+"
  };
  private static int wrong = 0;

  public static void main(String[] args) throws IOException {
    String source = withoutComments(Files.readString(Paths.get(args[0]), StandardCharsets.UTF_8));
    face();
    classes();
    forbidden(source);
    imports(source);
    methods(source);
    System.out.println(wrong == 0 ? "the rules that can be seen are kept" : wrong + " rules are not kept");
    if (wrong != 0) {
      System.exit(1);
    }
  }

  private static void broken(int rule, String what) {
    wrong++;
    System.out.println("rule " + rule + ": " + what);
  }

  private static void face() {
    Set<String> open = new TreeSet<>();
    Set<String> names = new TreeSet<>();
    Set<String> hidden = new TreeSet<>();
    for (Method method : WaysKept.class.getDeclaredMethods()) {
      if (Modifier.isPrivate(method.getModifiers())) {
        hidden.add(method.getName());
      } else {
        open.add(told(method));
        names.add(method.getName());
        if (!Modifier.isPublic(method.getModifiers()) || Modifier.isStatic(method.getModifiers()) || method.getReturnType() != int.class) {
          broken(1, method.toString());
        }
      }
    }
    if (!open.equals(new TreeSet<>(Arrays.asList(FACE)))) {
      broken(1, "the methods of the face are " + open);
    }
    for (Class<?> inside : WaysKept.class.getDeclaredClasses()) {
      for (Method method : inside.getDeclaredMethods()) {
        hidden.add(method.getName());
      }
    }
    hidden.retainAll(names);
    if (!hidden.isEmpty()) {
      broken(1, "names of public methods for others: " + hidden);
    }
    for (Constructor<?> made : WaysKept.class.getDeclaredConstructors()) {
      if (made.getParameterCount() != 0 || !Modifier.isPublic(made.getModifiers())) {
        broken(1, made.toString());
      }
    }
    Set<String> constants = new TreeSet<>();
    for (Field field : WaysKept.class.getDeclaredFields()) {
      if (!Modifier.isPrivate(field.getModifiers())) {
        constants.add(field.getName());
      }
    }
    if (!constants.equals(new TreeSet<>(Arrays.asList(CONSTANTS)))) {
      broken(1, "the constants of the face are " + constants);
    }
    int modifiers = WaysKept.class.getModifiers();
    if (!Modifier.isFinal(modifiers) || !Modifier.isPublic(modifiers)) {
      broken(1, "the class is public and final");
    }
  }

  private static String told(Method method) {
    List<String> types = new ArrayList<>();
    for (Class<?> type : method.getParameterTypes()) {
      types.add(type.getName());
    }
    return method.getName() + "(" + String.join(",", types) + ")";
  }

  private static void classes() {
    List<Class<?>> all = new ArrayList<>(Arrays.asList(WaysKept.class.getDeclaredClasses()));
    for (Class<?> inside : all) {
      if (!Modifier.isStatic(inside.getModifiers()) || Modifier.isPublic(inside.getModifiers())) {
        broken(2, inside.toString());
      }
    }
    all.add(WaysKept.class);
    if (all.size() > 12) {
      broken(11, all.size() + " classes");
    }
    for (Class<?> each : all) {
      int fields = 0;
      for (Field field : each.getDeclaredFields()) {
        if (!Modifier.isStatic(field.getModifiers())) {
          fields++;
        } else if (!Modifier.isFinal(field.getModifiers())) {
          broken(5, field.toString());
        }
      }
      if (fields > 20) {
        broken(11, each + " has " + fields + " fields");
      }
      for (Method method : each.getDeclaredMethods()) {
        if (method.getParameterCount() > 7) {
          broken(11, method.toString());
        }
      }
    }
  }

  private static void forbidden(String source) {
    for (String each : FORBIDDEN) {
      Matcher found = Pattern.compile(each).matcher(source);
      if (found.find()) {
        broken(6, "the source holds '" + found.group() + "'");
      }
    }
    for (int i = 0; i < source.length(); i++) {
      if (source.charAt(i) > 126) {
        broken(4, "a sign beyond 127");
      }
    }
  }

  private static void imports(String source) {
    Matcher found = Pattern.compile("import ([^;]*);").matcher(source);
    while (found.find()) {
      if (!found.group(1).matches("java\\.util\\.(Arrays|ArrayList|List|Iterator)")) {
        broken(4, "import of " + found.group(1));
      }
    }
    Matcher called = Pattern.compile("\\b(Arrays|Math|Integer|System)\\.(\\w+)").matcher(source);
    while (called.find()) {
      if (!called.group().matches("Arrays\\.(copyOf|copyOfRange|fill)|Math\\.(min|max|abs|floorDiv|floorMod)"
          + "|Integer\\.(bitCount|compare)|System\\.arraycopy")) {
        broken(4, "call of " + called.group());
      }
    }
  }

  private static void methods(String source) {
    int begun = -1;
    String[] rows = source.split("\n", -1);
    for (int row = 0; row < rows.length; row++) {
      if (rows[row].matches("\\s{2,4}(public |private |static |final )*\\w+(\\[\\])* ?\\w*\\(.*\\) \\{")) {
        begun = row;
      } else if (rows[row].matches("\\s{2,4}\\}") && begun >= 0) {
        if (row - begun > 60) {
          broken(11, "a method of " + (row - begun) + " lines: " + rows[begun].trim());
        }
        begun = -1;
      }
    }
  }

  private static String withoutComments(String source) {
    return source.replaceAll("(?s)/\\*.*?\\*/", "").replaceAll("//[^\n]*", "");
  }
}

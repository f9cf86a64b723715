import java.io.IOException;
import java.lang.reflect.Field;
import java.lang.reflect.Method;
import java.lang.reflect.Modifier;
import java.nio.charset.StandardCharsets;
import java.nio.file.Files;
import java.nio.file.Path;
import java.nio.file.Paths;
import java.util.ArrayList;
import java.util.List;
import java.util.Set;
import java.util.TreeSet;
import java.util.regex.Matcher;
import java.util.regex.Pattern;

/** README.md against the class: its example, its constants, its calls (args[0] is the class's source). */
public final class ReadmeTest {
  private static final Pattern EXAMPLE = Pattern.compile("kept\\.(\\w+\\([^;]*\\));\\s+// (-?\\d+|[A-Z]+)\\b.*");
  private static final Pattern CONSTANT = Pattern.compile("\\| `([A-Z]+)` \\| (-?\\d+) \\|.*");
  private static final Pattern CALL = Pattern.compile("\\| `int (\\w+)\\(([^)]*)\\)` \\|.*");

  public static void main(String[] args) throws IOException, IllegalAccessException {
    Path root = Paths.get(args[0]).toAbsolutePath().getParent().getParent().getParent().getParent();
    List<String> page = Files.readAllLines(root.resolve("README.md"), StandardCharsets.UTF_8);
    example(page);
    Play.sentence("README: the constants");
    same(constantsOf(page), constantsOfClass());
    Play.sentence("README: the calls");
    same(callsOf(page), callsOfClass());
    Play.finish();
  }

  private static void example(List<String> page) throws IllegalAccessException {
    Play.sentence("README: the example");
    Play play = new Play();
    for (String row : page) {
      Matcher found = EXAMPLE.matcher(row);
      if (found.matches()) {
        play.due(found.group(1), number(found.group(2)));
      } else if (row.startsWith("kept.")) {
        Play.miss("a call without its answer: " + row);
      }
    }
  }

  private static int number(String word) throws IllegalAccessException {
    for (Field field : WaysKept.class.getFields()) {
      if (field.getName().equals(word)) {
        return field.getInt(null);
      }
    }
    return Integer.parseInt(word);
  }

  private static void same(Set<String> told, Set<String> due) {
    if (!told.equals(due)) {
      Play.miss("told are " + told + ", the class has " + due);
    }
  }

  private static Set<String> constantsOf(List<String> page) {
    Set<String> all = new TreeSet<>();
    for (String row : page) {
      Matcher found = CONSTANT.matcher(row);
      if (found.matches()) {
        all.add(found.group(1) + " " + found.group(2));
      }
    }
    return all;
  }

  private static Set<String> constantsOfClass() throws IllegalAccessException {
    Set<String> all = new TreeSet<>();
    for (Field field : WaysKept.class.getFields()) {
      all.add(field.getName() + " " + field.getInt(null));
    }
    return all;
  }

  private static Set<String> callsOf(List<String> page) {
    Set<String> all = new TreeSet<>();
    for (String row : page) {
      Matcher found = CALL.matcher(row);
      if (found.matches()) {
        all.add(found.group(1) + "(" + found.group(2).replaceAll(" \\w+(, |$)", "$1") + ")");
      }
    }
    return all;
  }

  private static Set<String> callsOfClass() {
    Set<String> all = new TreeSet<>();
    for (Method method : WaysKept.class.getDeclaredMethods()) {
      if (Modifier.isPublic(method.getModifiers())) {
        List<String> types = new ArrayList<>();
        for (Class<?> type : method.getParameterTypes()) {
          types.add(type.getName());
        }
        all.add(method.getName() + "(" + String.join(", ", types) + ")");
      }
    }
    return all;
  }
}

import java.lang.reflect.Method;
import java.nio.file.Files;
import java.nio.file.Path;
import java.util.ArrayList;
import java.util.HashSet;
import java.util.List;
import java.util.Set;
import java.util.regex.Matcher;
import java.util.regex.Pattern;

/** What README.md shows is so: each call of its example answers what stands behind it, and no call is left out. */
public final class CoilStairsReadme {
  private static final String NEW = "CoilStairs x = new CoilStairs();";
  private static final Pattern TYPED = Pattern.compile("for \\(char c : \"([^\"]*)\"\\.toCharArray\\(\\)\\) x\\.type\\(c\\);.*");
  private static final Pattern CALL = Pattern.compile("x\\.(\\w+)\\(([^)]*)\\);\\s*// (-?\\w+)(:.*)?");

  private static int wrong = 0;
  private static CoilStairs x = null;

  public static void main(String[] args) throws Exception {
    String readme = Files.readString(Path.of("README.md"));
    List<String> lines = exampleLines(readme);
    check(!lines.isEmpty(), "README.md has an example");
    for (String line : lines) doLine(line);
    everyCallIsTold(readme);
    for (String script : new String[] {".ci/run", "../shared/tests"}) check(readme.contains(script), "README.md tells of " + script);
    System.out.println(lines.size() + " lines of the example, " + wrong + " not as README.md says");
    if (wrong != 0) System.exit(1);
  }

  private static void check(boolean right, String what) {
    if (!right) {
      wrong++;
      System.out.println("not so: " + what);
    }
  }

  private static List<String> exampleLines(String readme) {
    List<String> lines = new ArrayList<>();
    Matcher block = Pattern.compile("(?s)```java\n(.*?)```").matcher(readme);
    while (block.find()) {
      for (String line : block.group(1).split("\n")) if (!line.isBlank()) lines.add(line.trim());
    }
    return lines;
  }

  private static void doLine(String line) throws Exception {
    Matcher typed = TYPED.matcher(line);
    Matcher call = CALL.matcher(line);
    if (line.equals(NEW)) {
      x = new CoilStairs();
    } else if (typed.matches()) {
      for (char c : typed.group(1).toCharArray()) x.type(c);
    } else if (call.matches()) {
      long got = answer(call.group(1), call.group(2));
      check(got == number(call.group(3)), line + " but it answered " + got);
    } else {
      check(false, "this line of the example can be read: " + line);
    }
  }

  private static long answer(String name, String told) throws Exception {
    String[] numbers = told.isEmpty() ? new String[0] : told.split(", *");
    Object[] arguments = new Object[numbers.length];
    for (int i = 0; i < numbers.length; i++) arguments[i] = Integer.parseInt(numbers[i]);
    for (Method m : CoilStairs.class.getMethods()) {
      if (m.getName().equals(name) && m.getParameterCount() == arguments.length) {
        return ((Number) m.invoke(x, arguments)).longValue();
      }
    }
    throw new IllegalArgumentException("no call is named " + name);
  }

  private static long number(String told) throws Exception {
    return told.matches("-?\\d+") ? Long.parseLong(told) : CoilStairs.class.getField(told).getInt(null);
  }

  /** The table of README.md has a row for each method of the face, with as many arguments as it takes. */
  private static void everyCallIsTold(String readme) {
    Set<String> told = new HashSet<>();
    Matcher row = Pattern.compile("(?m)^\\| `(\\w+)\\(([^)]*)\\)` \\|").matcher(readme);
    while (row.find()) told.add(row.group(1) + (row.group(2).isEmpty() ? 0 : row.group(2).split(",").length));
    Set<String> face = new HashSet<>();
    for (Method m : CoilStairs.class.getDeclaredMethods()) {
      if (java.lang.reflect.Modifier.isPublic(m.getModifiers())) face.add(m.getName() + m.getParameterCount());
    }
    check(told.equals(face), "README.md tells of each call: " + told + " and the class has " + face);
  }
}

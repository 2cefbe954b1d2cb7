import java.lang.management.ManagementFactory;
import java.lang.reflect.Array;
import java.lang.reflect.Constructor;
import java.lang.reflect.Field;
import java.lang.reflect.Method;
import java.lang.reflect.Modifier;
import java.nio.file.Files;
import java.nio.file.Path;
import java.util.ArrayList;
import java.util.Arrays;
import java.util.Collections;
import java.util.HashSet;
import java.util.IdentityHashMap;
import java.util.List;
import java.util.Set;
import java.util.TreeSet;
import java.util.regex.Matcher;
import java.util.regex.Pattern;

/** The face of the document, those rules of LANGUAGE.md that can be seen by a program, and the room. */
public final class CoilStairsRules {
  private static final Path SOURCE = Path.of("src/main/java/CoilStairs.java");
  private static final String[] FACE = {"type(int)int", "clear()int", "stairs()int", "step(int,int)int",
      "now(int)int", "flips()int", "pushes(int)int", "lifts(int)int", "lays(int,int)int", "undo()int",
      "push(int)int", "mat(int,int)int", "odds(int,int)int", "sees(int,int,int)int", "forget()int",
      "ways(int)int", "next(int)int", "rate(int,int)int", "keep(int)int", "back(int)int", "count(int)int",
      "trace()long"};

  private static int wrong = 0;
  private static long kept = 0;

  public static void main(String[] args) throws Exception {
    constants();
    face();
    nestedClasses();
    source();
    methodLengths();
    roomOfCalls();
    roomOfConstructor();
    System.out.println(wrong == 0 ? "the face, the rules and the room are kept" : wrong + " faults");
    if (wrong != 0) System.exit(1);
  }

  private static void check(boolean right, String what) {
    if (!right) {
      wrong++;
      System.out.println("not so: " + what);
    }
  }

  private static void constants() {
    check(CoilStairs.BAD == -1, "BAD is -1");
    check(CoilStairs.STATE == -2, "STATE is -2");
    check(CoilStairs.FULL == -3, "FULL is -3");
    check(CoilStairs.NONE == -9, "NONE is -9");
    check(CoilStairs.NO == -1000000, "NO is -1000000");
  }

  private static String signature(Method m) {
    List<String> types = new ArrayList<>();
    for (Class<?> t : m.getParameterTypes()) types.add(t.getSimpleName());
    return m.getName() + "(" + String.join(",", types) + ")" + m.getReturnType().getSimpleName();
  }

  private static void face() {
    int mods = CoilStairs.class.getModifiers();
    check(Modifier.isPublic(mods) && Modifier.isFinal(mods), "the class is public and final");
    Set<String> open = new TreeSet<>();
    Set<String> names = new HashSet<>();
    for (Method m : CoilStairs.class.getDeclaredMethods()) {
      if (Modifier.isPublic(m.getModifiers())) {
        open.add(signature(m));
        names.add(m.getName());
      }
    }
    check(open.equals(new TreeSet<>(Arrays.asList(FACE))), "the public methods are the document's: " + open);
    for (Method m : CoilStairs.class.getDeclaredMethods()) {
      if (Modifier.isPublic(m.getModifiers())) continue;
      check(Modifier.isPrivate(m.getModifiers()), m.getName() + " is private");
      check(!names.contains(m.getName()), m.getName() + " does not bear a public name");
    }
    Constructor<?>[] made = CoilStairs.class.getDeclaredConstructors();
    check(made.length == 1 && Modifier.isPublic(made[0].getModifiers()) && made[0].getParameterCount() == 0,
        "one public constructor");
    Set<String> fields = new TreeSet<>();
    for (Field f : CoilStairs.class.getDeclaredFields()) {
      if (Modifier.isPublic(f.getModifiers())) fields.add(f.getName());
      else check(Modifier.isPrivate(f.getModifiers()), f.getName() + " is private");
      check(!Modifier.isStatic(f.getModifiers()) || Modifier.isFinal(f.getModifiers()), f.getName() + " is final");
    }
    check(fields.equals(new TreeSet<>(Arrays.asList("BAD", "STATE", "FULL", "NONE", "NO"))), "public fields " + fields);
  }

  private static void nestedClasses() {
    Class<?>[] nested = CoilStairs.class.getDeclaredClasses();
    check(nested.length + 1 <= 12, "twelve classes at most");
    for (Class<?> c : nested) {
      int mods = c.getModifiers();
      check(Modifier.isStatic(mods), c.getName() + " is static");
      check(!Modifier.isPublic(mods) && !Modifier.isProtected(mods), c.getName() + " is not open");
      int fields = 0;
      for (Field f : c.getDeclaredFields()) {
        if (!Modifier.isStatic(f.getModifiers())) fields++;
        else check(Modifier.isFinal(f.getModifiers()), c.getName() + "." + f.getName() + " is final");
      }
      check(fields <= 20, c.getName() + " has twenty fields at most");
      for (Method m : c.getDeclaredMethods()) check(m.getParameterCount() <= 7, m.getName() + " takes seven at most");
    }
  }

  private static void source() throws Exception {
    String code = Files.readString(SOURCE).replaceAll("(?s)/\\*.*?\\*/", "").replaceAll("//[^\n]*", "");
    String[] never = {"\\bthrow\\b", "\\bthrows\\b", "\\btry\\b", "\\bcatch\\b", "\\bsynchronized\\b",
        "\\bassert\\b", "->", "::", "\\bpackage\\b", "\\w+Exact\\b", "\\bstatic\\s*\\{", "\\bdouble\\b",
        "\\bfloat\\b", "\\bequals\\b", "\\bhashCode\\b", "\\btoString\\b", "\\bgetClass\\b", "\"", "\\bSystem\\.(?!arraycopy)"};
    for (String word : never) {
      check(!Pattern.compile(word).matcher(code).find(), "the program does without " + word);
    }
    Matcher imports = Pattern.compile("\\bimport\\s+([\\w.]+);").matcher(code);
    while (imports.find()) check(imports.group(1).equals("java.util.Arrays"), "import " + imports.group(1));
    for (char c : code.toCharArray()) check(c >= 1 && c <= 127, "sign " + (int) c);
  }

  /** Rule 11: some sixty lines a method; its last line is the first one that closes it by the same indent. */
  private static void methodLengths() throws Exception {
    List<String> lines = Files.readAllLines(SOURCE);
    Pattern head = Pattern.compile("( {4}| {8})(?! |for|if|while|switch|else)[\\w\\[\\] ]+\\([^;]*\\) \\{");
    int methods = 0;
    for (int from = 0; from < lines.size(); from++) {
      Matcher m = head.matcher(lines.get(from));
      if (!m.matches()) continue;
      methods++;
      int to = from;
      while (!lines.get(to).equals(m.group(1) + "}")) to++;
      check(to - from < 60, "sixty lines at most: " + lines.get(from).trim());
    }
    check(methods > FACE.length, "methods were found: " + methods);
  }

  /** A call makes nothing that is kept or counted: all rows are made by the constructor. */
  private static void roomOfCalls() {
    com.sun.management.ThreadMXBean threads =
        (com.sun.management.ThreadMXBean) ManagementFactory.getThreadMXBean();
    long me = Thread.currentThread().getId();
    CoilStairs[] first = made(20);
    CoilStairs[] then = made(200);
    for (CoilStairs x : first) everyCall(x);
    long before = threads.getThreadAllocatedBytes(me);
    for (CoilStairs x : then) everyCall(x);
    long made = threads.getThreadAllocatedBytes(me) - before;
    check(made < 20000, "200 rounds of all calls make next to nothing, but " + made + " bytes");
  }

  /** All calls of a run live in one room: it must be enough even if each of 512 calls were to a new object. */
  private static void roomOfConstructor() throws Exception {
    Set<Object> found = Collections.newSetFromMap(new IdentityHashMap<>());
    long parts = partsOf(new CoilStairs(), found);
    check(found.size() * 512L <= 600_000, "few objects and arrays: " + found.size());
    check(parts * 512L <= 7_300_000, "few fields and elements: " + parts);
  }

  private static long partsOf(Object thing, Set<Object> found) throws Exception {
    if (thing == null || !found.add(thing)) return 0;
    long parts = 0;
    if (thing.getClass().isArray()) {
      parts = Array.getLength(thing);
      if (thing instanceof Object[] row) for (Object part : row) parts += partsOf(part, found);
      return parts;
    }
    for (Field f : thing.getClass().getDeclaredFields()) {
      if (Modifier.isStatic(f.getModifiers())) continue;
      parts++;
      f.setAccessible(true);
      if (!f.getType().isPrimitive()) parts += partsOf(f.get(thing), found);
    }
    return parts;
  }

  private static CoilStairs[] made(int n) {
    CoilStairs[] all = new CoilStairs[n];
    for (int i = 0; i < n; i++) all[i] = new CoilStairs();
    return all;
  }

  /** Some hundred calls, of the 512 for which an object is used. */
  private static void everyCall(CoilStairs x) {
    letters(x);
    kept += x.stairs() + x.pushes(20) + x.step(0, 2) + x.push(8) + x.mat(8, 3) + x.odds(3, 0);
    for (int what = 0; what <= 8; what++) kept += x.now(what);
    kept += x.keep(0) + x.flips() + x.lifts(1) + x.lays(1, 5) + x.undo() + x.back(0) + x.sees(0, 9, 3);
    kept += x.ways(0) + x.next(0) + x.forget() + x.count(0) + x.clear() + x.trace();
    for (int kind = 0; kind <= 5; kind++) kept += x.rate(kind, 1);
  }

  private static void letters(CoilStairs x) {
    for (int s = 0; s < 9; s++) {
      x.type('s');
      x.type('2');
      x.type(' ');
      x.type('9');
      x.type(' ');
      x.type('3');
      x.type(';');
    }
  }
}

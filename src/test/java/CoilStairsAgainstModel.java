import java.math.BigInteger;
import java.util.ArrayDeque;
import java.util.ArrayList;
import java.util.Arrays;
import java.util.Deque;
import java.util.List;
import java.util.Map;
import java.util.TreeMap;
import java.util.regex.Matcher;
import java.util.regex.Pattern;

/**
 * Runs of calls, drawn by a fixed rule, on the class and on a slow model that is written from the
 * document in another way: every answer must be the same, for right and for wrong arguments.
 */
public final class CoilStairsAgainstModel {
  private static final int RUNS = 3000;
  private static final int MOST_WRONG_SHOWN = 20;
  private static final String[] CALLS = {"clear", "stairs", "step", "now", "flips", "pushes", "lifts", "lays",
      "undo", "push", "mat", "odds", "sees", "forget", "ways", "next", "rate", "keep", "back", "count", "trace"};
  private static final int[] OFTEN = {1, 2, 30, 120, 60, 50, 40, 40, 40, 30, 30, 20, 20, 3, 15, 8, 40, 12, 12, 20, 10};
  private static final int[] WILD = {Integer.MIN_VALUE, Integer.MAX_VALUE, -1, -2, 10, 21, 61, 100, 255, 256, 1 << 16};

  private static int wrong = 0;
  private static long asked = 0;
  private static final Map<String, Integer> refusals = new TreeMap<>();
  private static long seed = 20261117;

  public static void main(String[] args) {
    for (int run = 0; run < RUNS; run++) {
      oneRun(run);
    }
    System.out.println(asked + " calls, " + wrong + " not as the model; refused: " + refusals);
    if (wrong != 0) System.exit(1);
  }

  private static int upTo(int most) {
    seed = seed * 6364136223846793005L + 1442695040888963407L;
    return (int) ((seed >>> 33) % (most + 1));
  }

  private static void oneRun(int run) {
    CoilStairs real = new CoilStairs();
    Model model = new Model();
    StringBuilder told = new StringBuilder();
    int left = 512;
    left = tell(real, model, told, run, left, upTo(19) == 0 ? brokenText() : goodText());
    while (left > 0) {
      if (upTo(150) == 0 && left > 110) {
        left = tell(real, model, told, run, left, upTo(2) == 0 ? goodText() : brokenText());
        continue;
      }
      oneCall(real, model, told, run, drawnCall(), drawnArguments(model));
      left--;
    }
  }

  private static int tell(CoilStairs real, Model model, StringBuilder told, int run, int left, String text) {
    for (int i = 0; i < text.length() && left > 1; i++, left--) {
      oneCall(real, model, told, run, "type", new int[] {text.charAt(i), 0, 0});
    }
    oneCall(real, model, told, run, "stairs", new int[3]);
    return left - 1;
  }

  private static String drawnCall() {
    int sum = 0;
    for (int often : OFTEN) sum += often;
    int drawn = upTo(sum - 1);
    int i = 0;
    while (drawn >= OFTEN[i]) drawn -= OFTEN[i++];
    return CALLS[i];
  }

  private static int[] drawnArguments(Model model) {
    int[] a = new int[3];
    for (int i = 0; i < 3; i++) {
      int how = upTo(9);
      a[i] = how < 5 ? upTo(model.steps.size()) : how < 9 ? upTo(20) - (upTo(4) == 0 ? 1 : 0) : WILD[upTo(WILD.length - 1)];
    }
    return a;
  }

  private static String goodText() {
    StringBuilder text = new StringBuilder();
    int steps = upTo(9);
    List<String> items = new ArrayList<>();
    int high = 1 + upTo(8), deep = 1 + upTo(8), mat = upTo(5);
    for (int i = 0; i < steps; i++) items.add("s" + (1 + upTo(high - 1)) + " " + (1 + upTo(deep - 1)) + " " + upTo(mat) + ";");
    if (upTo(1) == 0) items.add(upTo(items.size()), "l" + upTo(9) + ";");
    if (upTo(1) == 0) items.add(upTo(items.size()), "f" + (1 + upTo(upTo(8))) + ";");
    if (upTo(1) == 0) items.add(upTo(items.size()), "d" + upTo(3) + ";");
    for (String item : items) text.append(item);
    for (int blanks = upTo(3); blanks > 0; blanks--) {
      int at = upTo(text.length());
      text.insert(at, ' ');
    }
    return text.toString();
  }

  private static String brokenText() {
    StringBuilder text = new StringBuilder(goodText());
    String odd = "slfd;0123456789 09xS,\t\u00e9\0";
    for (int changes = 1 + upTo(2); changes > 0; changes--) {
      int at = upTo(text.length());
      char letter = odd.charAt(upTo(odd.length() - 1));
      int how = upTo(2);
      if (how == 0) text.insert(at, letter);
      else if (at < text.length() && how == 1) text.setCharAt(at, letter);
      else text.setLength(at);
    }
    return text.toString();
  }

  private static void oneCall(CoilStairs real, Model model, StringBuilder told, int run, String name, int[] a) {
    long got = realAnswer(real, name, a);
    long due = model.answer(name, a);
    asked++;
    if (due == -1 || due == -2 || due == -3 || due == -9 || due == -1000000) {
      refusals.merge(name + due, 1, Integer::sum);
    }
    told.append(' ').append(name).append(Arrays.toString(a)).append('=').append(due);
    if (got != due && ++wrong <= MOST_WRONG_SHOWN) {
      System.out.println("run " + run + ": " + name + Arrays.toString(a) + " answered " + got + ", due is " + due
          + " behind" + told.substring(0, told.length()));
    }
  }

  private static long realAnswer(CoilStairs x, String name, int[] a) {
    switch (name) {
      case "type": return x.type(a[0]);
      case "clear": return x.clear();
      case "stairs": return x.stairs();
      case "step": return x.step(a[0], a[1]);
      case "now": return x.now(a[0]);
      case "flips": return x.flips();
      case "pushes": return x.pushes(a[0]);
      case "lifts": return x.lifts(a[0]);
      case "lays": return x.lays(a[0], a[1]);
      case "undo": return x.undo();
      case "push": return x.push(a[0]);
      case "mat": return x.mat(a[0], a[1]);
      case "odds": return x.odds(a[0], a[1]);
      case "sees": return x.sees(a[0], a[1], a[2]);
      case "forget": return x.forget();
      case "ways": return x.ways(a[0]);
      case "next": return x.next(a[0]);
      case "rate": return x.rate(a[0], a[1]);
      case "keep": return x.keep(a[0]);
      case "back": return x.back(a[0]);
      case "count": return x.count(a[0]);
      default: return x.trace();
    }
  }

  private record Step(int high, int deep, int mat) { }

  /** Where it is, VIGOUR, FLIPS and MATS; never changed, so UNDONE and IMAGES just hold one. */
  private record Now(int place, int vigour, int flips, List<Integer> mats) {
    Now at(int otherPlace, int otherVigour) { return new Now(otherPlace, otherVigour, flips, mats); }
    Now oneFlipMore() { return new Now(place, vigour, flips + 1, mats); }
    Now withMat(int s, int n) {
      List<Integer> other = new ArrayList<>(mats);
      other.set(s, n);
      return new Now(place, vigour, flips, other);
    }
  }

  private record Rest(int place, int flips, int slips) { }

  private record Sight(int s, int v, int place) { }

  /** What a text tells. */
  private static final class Told {
    final List<Step> steps = new ArrayList<>();
    int coilLong = 4, stiff = 3, drag = 1, items = 0;
  }

  private static final class Model {
    String text = "";
    List<Step> steps = new ArrayList<>();
    int coilLong = 4, stiff = 3, drag = 1;
    Now now = new Now(0, 0, 0, new ArrayList<>());
    Deque<Now> undone = new ArrayDeque<>();
    Now[] images = new Now[2];
    List<Sight> seen = new ArrayList<>();
    long trace = 0;

    boolean step(int s) { return s >= 0 && s < steps.size(); }
    boolean place(int p) { return p >= 0 && p <= steps.size(); }
    static boolean in(int n, int a, int b) { return a <= n && n <= b; }
    boolean floor() { return now.place == steps.size(); }

    long answer(String name, int[] a) {
      switch (name) {
        case "type": return type(a[0]);
        case "clear": { int had = text.length(); text = ""; return had; }
        case "stairs": return stairs();
        case "step": return !step(a[0]) || !in(a[1], 0, 2) ? -1
            : a[1] == 0 ? steps.get(a[0]).high : a[1] == 1 ? steps.get(a[0]).deep : now.mats.get(a[0]);
        case "now": return now(a[0]);
        case "flips": return floor() || now.vigour == 0 || now.flips == 999 ? -2 : done(flip(now, stiff, drag, new int[1])).place;
        case "pushes": return !in(a[0], 1, 20) ? -1 : floor() ? -2
            : done(now.at(now.place, Math.min(99, now.vigour + a[0]))).vigour;
        case "lifts": return lifts(a[0]);
        case "lays": return lays(a[0], a[1]);
        case "undo": if (undone.isEmpty()) return -2; now = undone.pop(); return undone.size();
        case "push": return push(a[0]);
        case "mat": return mat(a[0], a[1]);
        case "odds": return odds(a[0], a[1]);
        case "sees": return sees(a[0], a[1], a[2]);
        case "forget": { int had = seen.size(); seen.clear(); return had; }
        case "ways": return !in(a[0], 0, 1) ? -1 : a[0] == 0 ? ways().size() : ways().isEmpty() ? -9 : ways().get(0);
        case "next": return next(a[0]);
        case "rate": return rate(a[0], a[1]);
        case "keep": if (!in(a[0], 0, 1)) return -1; images[a[0]] = now; return now.place;
        case "back": return back(a[0]);
        case "count": return count(a[0]);
        default: return trace;
      }
    }

    int type(int letter) {
      if (!in(letter, 0, 255)) return -1;
      if (text.length() == 100) return -3;
      text += (char) letter;
      return text.length();
    }

    Now done(Now then) {
      undone.push(now);
      if (undone.size() > 10) undone.removeLast();
      now = then;
      return then;
    }

    int stairs() {
      Told told = new Told();
      Integer fault = read(text, told);
      if (fault != null) return -10 - fault;
      steps = told.steps;
      coilLong = told.coilLong;
      stiff = told.stiff;
      drag = told.drag;
      List<Integer> mats = new ArrayList<>();
      for (Step s : steps) mats.add(s.mat);
      now = new Now(0, 0, 0, mats);
      undone.clear();
      images = new Now[2];
      seen.clear();
      text = "";
      return told.items;
    }

    /** Cuts the whole text into TOKENS first; then looks at them by the pattern of what may follow. */
    static Integer read(String text, Told told) {
      List<String> tokens = new ArrayList<>();
      List<Integer> places = new ArrayList<>();
      Matcher m = Pattern.compile("[0-9]+|[^ 0-9]", Pattern.DOTALL).matcher(text);
      while (m.find()) {
        tokens.add(m.group());
        places.add(m.start());
      }
      tokens.add("end");
      places.add(text.length());
      String told1 = "";
      int i = 0;
      while (!tokens.get(i).equals("end")) {
        String head = tokens.get(i);
        boolean fits = head.equals("s") ? told.steps.size() < 9 : head.matches("[lfd]") && !told1.contains(head);
        if (!fits) return places.get(i);
        told1 += head;
        String[] may = head.equals("s") ? new String[] {"[1-9]", "[1-9]", "[0-5]", ";"}
            : new String[] {head.equals("l") ? "[0-9]" : head.equals("f") ? "[1-9]" : "[0-3]", ";"};
        int[] n = new int[may.length];
        for (int k = 0; k < may.length; k++) {
          String token = tokens.get(i + 1 + k);
          if (!token.matches(may[k])) return places.get(i + 1 + k);
          n[k] = token.charAt(0) - '0';
        }
        if (head.equals("s")) told.steps.add(new Step(n[0], n[1], n[2]));
        if (head.equals("l")) told.coilLong = n[0];
        if (head.equals("f")) told.stiff = n[0];
        if (head.equals("d")) told.drag = n[0];
        told.items++;
        i += 1 + may.length;
      }
      return null;
    }

    static int held(int vigour) { return vigour < 0 ? 0 : Math.min(vigour, 99); }

    Now flip(Now n, int withStiff, int withDrag, int[] slips) {
      if (n.vigour < withStiff) return n.at(n.place, 0).oneFlipMore();
      int vigour = held(n.vigour - withStiff + steps.get(n.place).high - withDrag);
      return lands(n.at(n.place + 1, vigour), withDrag, slips).oneFlipMore();
    }

    Now lands(Now n, int withDrag, int[] slips) {
      if (n.place == steps.size()) return n.at(n.place, 0);
      Step s = steps.get(n.place);
      int vigour = held(n.vigour - n.mats.get(n.place));
      if (vigour <= coilLong + s.deep) return n.at(n.place, vigour);
      slips[0] += (int) Math.pow(2, n.place);
      return lands(n.at(n.place + 1, held(vigour + s.high - (withDrag + withDrag + 1))), withDrag, slips);
    }

    Rest run(Now n, int withStiff, int withDrag) {
      int[] slips = new int[1];
      int flips = 0;
      while (n.vigour != 0 && n.place != steps.size()) {
        n = flip(n, withStiff, withDrag, slips);
        flips++;
      }
      return new Rest(n.place, flips, slips[0]);
    }

    int now(int what) {
      switch (what) {
        case 0: return now.place;
        case 1: return now.vigour;
        case 2: return now.flips;
        case 3: return run(now, stiff, drag).place;
        case 4: return run(now, stiff, drag).flips;
        case 5: return run(now, stiff, drag).slips;
        case 6: return least()[0];
        case 7: return least()[1];
        case 8: return undone.size();
        default: return -1;
      }
    }

    /** From the top down: for each place and VIGOUR the least (sum, first) by which it can be had. */
    int[] least() {
      if (floor()) return new int[2];
      List<Map<Integer, int[]>> had = new ArrayList<>();
      for (int p = 0; p <= steps.size(); p++) had.add(new TreeMap<>());
      had.get(now.place).put(now.vigour, new int[] {0, -1});
      for (int p = now.place; p < steps.size(); p++) {
        for (Map.Entry<Integer, int[]> e : had.get(p).entrySet()) {
          for (int k = 0; k <= 9; k++) {
            int pushed = Math.min(99, e.getKey() + k);
            if (pushed < stiff) continue;
            Now then = flip(now.at(p, pushed), stiff, drag, new int[1]);
            int[] way = {e.getValue()[0] + k, e.getValue()[1] < 0 ? k : e.getValue()[1]};
            had.get(then.place).merge(then.vigour, way,
                (x, y) -> x[0] < y[0] || x[0] == y[0] && x[1] <= y[1] ? x : y);
          }
        }
      }
      return had.get(steps.size()).get(0);
    }

    int lifts(int s) {
      if (!step(s)) return -1;
      if (now.place == s) return -2;
      int was = now.place;
      done(now.at(s, 0));
      return was;
    }

    int lays(int s, int n) {
      if (!step(s) || !in(n, 0, 5)) return -1;
      int was = now.mats.get(s);
      if (was == n) return -2;
      done(now.withMat(s, n));
      return was;
    }

    int push(int p) {
      if (!place(p)) return -1;
      if (floor()) return p == now.place ? 0 : -9;
      int k = 0;
      while (k <= 60 && run(now.at(now.place, Math.min(99, now.vigour + k)), stiff, drag).place != p) k++;
      return k > 60 ? -9 : k;
    }

    int mat(int p, int n) {
      if (!place(p) || !in(n, 0, 5)) return -1;
      int s = 0;
      while (s < steps.size() && run(now.withMat(s, n), stiff, drag).place != p) s++;
      return s == steps.size() ? -9 : s;
    }

    int odds(int x, int what) {
      if (!in(x, 0, 10) || !in(what, 0, 1)) return -1;
      BigInteger upper = floorOf(now, 0, x);
      BigInteger lower = BigInteger.TEN.pow(steps.size());
      BigInteger both = upper.gcd(lower);
      return (what == 0 ? upper : lower).divide(both).intValueExact();
    }

    /** By how many of ten to the number of STEPS from s on it comes to THE FLOOR. */
    BigInteger floorOf(Now n, int s, int x) {
      if (s == steps.size()) return run(n, stiff, drag).place == s ? BigInteger.ONE : BigInteger.ZERO;
      if (n.mats.get(s) == 0) return BigInteger.TEN.multiply(floorOf(n, s + 1, x));
      return BigInteger.valueOf(x).multiply(floorOf(n.withMat(s, 0), s + 1, x))
          .add(BigInteger.valueOf(10 - x).multiply(floorOf(n, s + 1, x)));
    }

    int sees(int s, int v, int p) {
      if (!step(s) || !in(v, 1, 60) || !place(p)) return -1;
      if (seen.size() == 6) return -3;
      seen.add(new Sight(s, v, p));
      return seen.size();
    }

    List<Integer> ways() {
      List<Integer> found = new ArrayList<>();
      for (int two = 10; two <= 93; two++) {
        int withStiff = two / 10, withDrag = two % 10;
        if (withDrag > 3) continue;
        if (seen.stream().allMatch(x -> run(now.at(x.s, x.v), withStiff, withDrag).place == x.place)) found.add(two);
      }
      return found;
    }

    int next(int s) {
      if (!step(s)) return -1;
      List<Integer> ways = ways();
      if (ways.size() < 2) return -9;
      int best = 0, bestMost = Integer.MAX_VALUE;
      for (int v = 60; v >= 1; v--) {
        int[] at = new int[10];
        for (int two : ways) at[run(now.at(s, v), two / 10, two % 10).place]++;
        int most = Arrays.stream(at).max().getAsInt();
        if (most <= bestMost) {
          bestMost = most;
          best = v;
        }
      }
      return best;
    }

    int rate(int kind, int s) {
      if (!in(kind, 0, 5) || !step(s)) return -1000000;
      trace += new int[] {1, 11, 101, 1011, 10101, 100001}[kind];
      int h = steps.get(s).high, d = steps.get(s).deep, m = now.mats.get(s);
      return new int[] {h, h + d, h - 2 * m, 2 * (h + d), h - 2 * m + s, h + now.vigour}[kind];
    }

    int back(int image) {
      if (!in(image, 0, 1)) return -1;
      if (images[image] == null) return -2;
      now = images[image];
      undone.clear();
      return now.place;
    }

    int count(int what) {
      if (!in(what, 0, 5)) return -1;
      return new int[] {steps.size(), coilLong, stiff, drag, seen.size(), text.length()}[what];
    }
  }
}

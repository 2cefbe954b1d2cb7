/**
 * Each promise of the document with ordinary inputs, the edges that it names, and wrong inputs; the
 * answers that are due are worked out by hand from the document's words.
 */
public final class CoilStairsPromises {
  private static final int LEAST_INT = Integer.MIN_VALUE, MOST_INT = Integer.MAX_VALUE;
  private static final int BAD = -1, STATE = -2, FULL = -3, NONE = -9, NO = -1000000;

  private static int wrong = 0;
  private static int asked = 0;

  public static void main(String[] args) {
    newObject();
    type();
    clear();
    stairs();
    faults();
    readAnew();
    step();
    nowPlain();
    nowRun();
    nowLeast();
    flips();
    slips();
    vigourBounds();
    pushes();
    lifts();
    lays();
    undo();
    push();
    mat();
    odds();
    sees();
    forget();
    ways();
    next();
    rate();
    keep();
    back();
    count();
    trace();
    System.out.println(asked + " answers, " + wrong + " not as due");
    if (wrong != 0) System.exit(1);
  }

  private static void due(int promise, String call, long got, long want) {
    asked++;
    if (got != want) {
      wrong++;
      System.out.println("promise " + promise + ": " + call + " answered " + got + ", due is " + want);
    }
  }

  private static CoilStairs typed(String text) {
    CoilStairs x = new CoilStairs();
    more(x, text);
    return x;
  }

  private static void more(CoilStairs x, String text) {
    for (int i = 0; i < text.length(); i++) x.type(text.charAt(i));
  }

  private static CoilStairs told(String text) {
    CoilStairs x = typed(text);
    int items = 0;
    for (int i = 0; i < text.length(); i++) if (text.charAt(i) == ';') items++;
    due(4, "stairs() of " + text, x.stairs(), items);
    return x;
  }

  /** HIGH, DEEP, MAT; LONG 4, STIFF 3, DRAG 1 as they are at first. */
  private static CoilStairs four() {
    return told("s4 3 0;s5 2 2;s9 1 0;s3 6 1;");
  }

  private static void newObject() {
    CoilStairs x = new CoilStairs();
    for (int what = 0; what <= 8; what++) due(1, "now " + what, x.now(what), 0);
    int[] counts = {0, 4, 3, 1, 0, 0};
    for (int what = 0; what <= 5; what++) due(1, "count " + what, x.count(what), counts[what]);
    due(1, "step(0, 0)", x.step(0, 0), BAD);
    due(1, "flips", x.flips(), STATE);
    due(1, "pushes", x.pushes(1), STATE);
    due(1, "lifts", x.lifts(0), BAD);
    due(1, "lays", x.lays(0, 0), BAD);
    due(1, "undo", x.undo(), STATE);
    due(1, "push", x.push(0), 0);
    due(1, "mat", x.mat(0, 0), NONE);
    due(1, "odds upper", x.odds(0, 0), 1);
    due(1, "odds lower", x.odds(0, 1), 1);
    due(1, "sees", x.sees(0, 1, 0), BAD);
    due(1, "ways", x.ways(0), 36);
    due(1, "the first way", x.ways(1), 10);
    due(1, "next", x.next(0), BAD);
    due(1, "rate", x.rate(0, 0), NO);
    due(1, "back 0", x.back(0), STATE);
    due(1, "back 1", x.back(1), STATE);
    due(1, "trace", x.trace(), 0);
    due(1, "clear", x.clear(), 0);
  }

  private static void type() {
    CoilStairs x = new CoilStairs();
    due(2, "type(-1)", x.type(-1), BAD);
    due(2, "type(256)", x.type(256), BAD);
    due(2, "type(least)", x.type(LEAST_INT), BAD);
    due(2, "type(most)", x.type(MOST_INT), BAD);
    due(2, "type(0)", x.type(0), 1);
    due(2, "type(255)", x.type(255), 2);
    for (int i = 3; i <= 100; i++) due(2, "type(32)", x.type(32), i);
    due(2, "type(32) as the 101st", x.type(32), FULL);
    due(2, "type(256) when full", x.type(256), BAD);
    due(2, "letters", x.count(5), 100);
    due(2, "clear", x.clear(), 100);
    due(2, "type(115)", x.type(115), 1);
  }

  private static void clear() {
    CoilStairs x = typed("l1");
    due(3, "clear", x.clear(), 2);
    due(3, "clear again", x.clear(), 0);
    due(3, "letters", x.count(5), 0);
    due(3, "stairs of nothing", x.stairs(), 0);
    CoilStairs y = four();
    more(y, "x");
    y.pushes(2);
    due(3, "clear", y.clear(), 1);
    due(3, "STEPS stay", y.count(0), 4);
    due(3, "VIGOUR stays", y.now(1), 2);
    due(3, "UNDONE stays", y.now(8), 1);
  }

  private static void stairs() {
    told("");
    CoilStairs blanks = typed("   ");
    due(4, "stairs of blanks", blanks.stairs(), 0);
    due(4, "letters", blanks.count(5), 0);
    CoilStairs x = told("  s  9 1   5 ; d 0;l9 ;f9; s1 9 0;  ");
    due(4, "STEPS", x.count(0), 2);
    due(4, "LONG", x.count(1), 9);
    due(4, "STIFF", x.count(2), 9);
    due(4, "DRAG", x.count(3), 0);
    due(4, "letters", x.count(5), 0);
    due(4, "HIGH 0", x.step(0, 0), 9);
    due(4, "DEEP 0", x.step(0, 1), 1);
    due(4, "MAT 0", x.step(0, 2), 5);
    due(4, "HIGH 1", x.step(1, 0), 1);
    due(4, "DEEP 1", x.step(1, 1), 9);
    due(4, "MAT 1", x.step(1, 2), 0);
    CoilStairs least = told("l0;f1;d3;");
    due(4, "LONG", least.count(1), 0);
    due(4, "STIFF", least.count(2), 1);
    due(4, "DRAG", least.count(3), 3);
    due(4, "STEPS", least.count(0), 0);
    CoilStairs nine = told("s1 1 0;s1 1 0;s1 1 0;s1 1 0;s1 1 0;s1 1 0;s1 1 0;s1 1 0;s1 1 0;l1;d1;f1;");
    due(4, "STEPS", nine.count(0), 9);
    CoilStairs full = told("s1 1 0;s1 1 0;s1 1 0;s1 1 0;s1 1 0;s1 1 0;s1 1 0;s1 1 0;s1 1 0;l1;d1;f1;"
        + "                            ");
    due(4, "STEPS of 100 letters", full.count(0), 9);
  }

  private static void fault(String text, int place) {
    CoilStairs x = typed(text);
    due(4, "stairs() of '" + text + "'", x.stairs(), -10 - place);
    due(4, "letters behind a FAULT of '" + text + "'", x.count(5), text.length());
    due(4, "stairs() again of '" + text + "'", x.stairs(), -10 - place);
  }

  private static void faults() {
    fault(";", 0);
    fault("5", 0);
    fault("x", 0);
    fault("S", 0);
    fault("  x;", 2);
    fault("l1;;", 3);
    fault("l1;5", 3);
    fault("l1;x", 3);
    fault("l1; l2;", 4);
    fault("f2;d1;f2;", 6);
    fault("d1; s1 1 1; d", 12);
    fault("l", 1);
    fault("l  ", 3);
    fault("l1", 2);
    fault("l1 ", 3);
    fault("s", 1);
    fault("s1 1 1", 6);
    fault("s1 1 ", 5);
    fault("s1;", 2);
    fault("s1 1;", 4);
    fault("s1 1 1 1;", 7);
    fault("l1 2;", 3);
    fault("ls", 1);
    fault("l l", 2);
    fault("l;", 1);
    fault("lx", 1);
    fault("l-1;", 1);
    fault("l1,", 2);
    fault("l1\t;", 2);
    fault("l1" + (char) 0 + ";", 2);
    fault("l1" + (char) 255 + ";", 2);
    fault("l10;", 1);
    fault("l 10;", 2);
    fault("l00;", 1);
    fault("l01;", 1);
    fault("l100;", 1);
    fault("l 99999999999999999999;", 2);
    fault("l4294967297;", 1);
    fault("f0;", 1);
    fault("f10;", 1);
    fault("f01;", 1);
    fault("d4;", 1);
    fault("d00;", 1);
    fault("s0 1 1;", 1);
    fault("s10 1 1;", 1);
    fault("s1 0 1;", 3);
    fault("s1 10 1;", 3);
    fault("s1 1 6;", 5);
    fault("s111;", 1);
    fault("s11 1;", 1);
    fault("s1 1 00;", 5);
    fault("s1 1 0;s1 1 0;s1 1 0;s1 1 0;s1 1 0;s1 1 0;s1 1 0;s1 1 0;s1 1 0;s1 1 0;", 63);
    fault("s1 1 0;s1 1 0;s1 1 0;s1 1 0;s1 1 0;s1 1 0;s1 1 0;s1 1 0;s1 1 0; s", 64);
    // the first one counts, whatever comes behind it
    fault("l1;l1;x 100", 3);
    fault("x l10;", 0);
    fault("s1 1 0;s1 1 0;s1 1 0;s1 1 0;s1 1 0;s1 1 0;s1 1 0;s1 1 0;s1 1 0;l1;d1;f1"
        + "                             ", 100);
  }

  private static void readAnew() {
    CoilStairs x = four();
    x.pushes(9);
    x.lays(0, 5);
    x.keep(0);
    x.keep(1);
    x.sees(0, 1, 0);
    x.flips();
    x.rate(0, 0);
    more(x, "s1 1 1;x");
    due(4, "stairs with a FAULT", x.stairs(), -17);
    due(4, "STEPS stay", x.count(0), 4);
    due(4, "MAT stays", x.step(0, 2), 5);
    due(4, "FLIPS stay", x.now(2), 1);
    due(4, "SEEN stays", x.count(4), 1);
    due(4, "UNDONE stays", x.now(8), 3);
    due(4, "IMAGE stays", x.back(1), 0);
    x.pushes(1);
    x.clear();
    more(x, "s7 8 3;f5;");
    due(4, "stairs", x.stairs(), 2);
    due(4, "where", x.now(0), 0);
    due(4, "VIGOUR", x.now(1), 0);
    due(4, "FLIPS", x.now(2), 0);
    due(4, "UNDONE", x.now(8), 0);
    due(4, "undo", x.undo(), STATE);
    due(4, "SEEN", x.count(4), 0);
    due(4, "IMAGE 0", x.back(0), STATE);
    due(4, "IMAGE 1", x.back(1), STATE);
    due(4, "STEPS", x.count(0), 1);
    due(4, "LONG", x.count(1), 4);
    due(4, "STIFF", x.count(2), 5);
    due(4, "DRAG", x.count(3), 1);
    due(4, "MAT", x.step(0, 2), 3);
    more(x, "d2;l2;");
    due(4, "stairs", x.stairs(), 2);
    due(4, "STEPS", x.count(0), 0);
    due(4, "STIFF as at first", x.count(2), 3);
    due(4, "THE TRACE stays", x.trace(), 1);
  }

  private static void step() {
    CoilStairs x = four();
    due(5, "step(3, 0)", x.step(3, 0), 3);
    due(5, "step(3, 1)", x.step(3, 1), 6);
    due(5, "step(3, 2)", x.step(3, 2), 1);
    x.lays(3, 4);
    due(5, "step(3, 2) behind lays", x.step(3, 2), 4);
    due(5, "step(4, 0)", x.step(4, 0), BAD);
    due(5, "step(-1, 0)", x.step(-1, 0), BAD);
    due(5, "step(0, 3)", x.step(0, 3), BAD);
    due(5, "step(0, -1)", x.step(0, -1), BAD);
    due(5, "step(most, least)", x.step(MOST_INT, LEAST_INT), BAD);
    due(5, "step(least, 0)", x.step(LEAST_INT, 0), BAD);
  }

  private static void nowIs(int promise, CoilStairs x, int... due) {
    for (int what = 0; what < due.length; what++) due(promise, "now(" + what + ")", x.now(what), due[what]);
  }

  private static void nowPlain() {
    CoilStairs x = four();
    due(6, "now(-1)", x.now(-1), BAD);
    due(6, "now(9)", x.now(9), BAD);
    due(6, "now(least)", x.now(LEAST_INT), BAD);
    due(6, "now(most)", x.now(MOST_INT), BAD);
    nowIs(6, x, 0, 0, 0, 0, 0, 0);
    x.pushes(3);
    nowIs(6, x, 0, 3, 0, 1, 2, 0);
    due(6, "UNDONE", x.now(8), 1);
    x.flips();
    // 3 - 3 + 4 - 1 = 3, less the MAT 2
    nowIs(6, x, 1, 1, 1, 1, 1, 0);
    due(6, "UNDONE", x.now(8), 2);
  }

  private static void nowRun() {
    // v 7 on 0: 7 - 3 + 4 - 1 = 7, less 2 is 5 (6 are allowed on STEP 1); 5 - 3 + 5 - 1 = 6 is more
    // than 5 on STEP 2: it slips, 6 + 9 - 3 = 12, less 1 is 11 on STEP 3 (10 allowed): it slips.
    CoilStairs x = four();
    x.pushes(7);
    nowIs(6, x, 0, 7, 0, 4, 2, 4 + 8);
    due(6, "nothing is changed", x.now(0), 0);
    // VIGOUR is 0 when it lands: no FLIP more is needed to rest.
    CoilStairs zero = told("s1 5 0;s9 9 5;s1 1 0;");
    zero.pushes(5);
    nowIs(6, zero, 0, 5, 0, 1, 1, 0);
    CoilStairs floor = told("s1 1 0;");
    floor.pushes(3);
    nowIs(6, floor, 0, 3, 0, 1, 1, 0);
    floor.flips();
    nowIs(6, floor, 1, 0, 1, 1, 0, 0, 0, 0);
    CoilStairs rests = told("s1 1 0;");
    rests.pushes(2);
    nowIs(6, rests, 0, 2, 0, 0, 1, 0);
  }

  private static void nowLeast() {
    // STIFF 3, and 1 - 1 for each FLIP: 3 ahead of each of them.
    CoilStairs x = told("s1 9 0;s1 9 0;s1 9 0;");
    due(6, "LEAST", x.now(6), 9);
    due(6, "its first", x.now(7), 3);
    x.pushes(2);
    due(6, "LEAST", x.now(6), 7);
    due(6, "its first", x.now(7), 1);
    x.pushes(10);
    due(6, "LEAST", x.now(6), 0);
    due(6, "its first", x.now(7), 0);
    // A MAT takes VIGOUR away: only what is needed is pushed ahead of it.
    CoilStairs mats = told("s1 9 0;s1 9 5;s1 9 0;f9;d3;");
    due(6, "LEAST", mats.now(6), 27);
    due(6, "its first", mats.now(7), 9);
    // 1 - 1 + 9 is more than STEP 1 allows: it slips over both to THE FLOOR.
    CoilStairs slips = told("l0;f1;d0;s9 1 0;s1 1 0;s1 1 5;");
    due(6, "LEAST", slips.now(6), 1);
    due(6, "its first", slips.now(7), 1);
    // 9 + 9 - 9 - 0: 9 stays; then 9 again: nothing more is needed.
    CoilStairs even = told("f9;d0;l9;s9 9 0;s9 9 0;s9 9 0;");
    due(6, "LEAST", even.now(6), 9);
    due(6, "its first", even.now(7), 9);
    // Of several ways that with the least first one: 3, 2, 1 and 4, 1, 1 are both 6.
    CoilStairs several = told("f3;d0;l9;s1 9 0;s2 9 0;s9 9 0;");
    due(6, "LEAST", several.now(6), 6);
    due(6, "its first", several.now(7), 3);
    due(6, "nothing is changed", several.now(1) + several.now(2) + several.now(8), 0);
    CoilStairs full = told("l0;f9;d0;s1 9 5;s1 9 5;");
    for (int i = 0; i < 5; i++) full.pushes(20);
    due(6, "LEAST by 99", full.now(6), 0);
    CoilStairs deep = told("s1 1 0;s1 1 0;s1 1 0;s1 1 0;s1 1 0;s1 1 0;s1 1 0;s1 1 0;s1 1 0;");
    deep.lifts(8);
    for (int i = 0; i < 5; i++) deep.pushes(20);
    due(6, "LEAST by 99 on the last of nine STEPS", deep.now(6), 0);
    due(6, "its first", deep.now(7), 0);
  }

  private static void flips() {
    CoilStairs x = four();
    due(7, "flips with VIGOUR 0", x.flips(), STATE);
    due(7, "FLIPS", x.now(2), 0);
    due(7, "UNDONE", x.now(8), 0);
    x.pushes(2);
    due(7, "flips: it RESTS", x.flips(), 0);
    nowIs(7, x, 0, 0, 1);
    due(7, "UNDONE", x.now(8), 2);
    x.pushes(3);
    due(7, "flips with just STIFF", x.flips(), 1);
    nowIs(7, x, 1, 1, 2);
    // To 0 at least: 3 - 3 + 1 - 3 is below it.
    CoilStairs drag = told("d3;s1 9 0;s1 9 0;");
    drag.pushes(3);
    due(7, "flips", drag.flips(), 1);
    nowIs(7, drag, 1, 0, 1);
    due(7, "flips", drag.flips(), STATE);
    CoilStairs floor = told("s9 1 0;");
    floor.pushes(20);
    due(7, "flips to THE FLOOR", floor.flips(), 1);
    nowIs(7, floor, 1, 0, 1);
    due(7, "flips on THE FLOOR", floor.flips(), STATE);
    due(7, "FLIPS", floor.now(2), 1);
  }

  private static void slips() {
    // 10 - 3 + 4 - 1 = 10, MAT 2: 8 is what LONG 4 and DEEP 4 allow: it stays.
    CoilStairs stays = told("s4 1 0;s5 4 2;s1 9 0;");
    stays.pushes(10);
    due(7, "flips on the edge of a slip", stays.flips(), 1);
    nowIs(7, stays, 1, 8, 1);
    // One more: 9, it slips: 9 + 5 - 3 = 11 on STEP 2 with 13 allowed.
    CoilStairs goes = told("s4 1 0;s5 4 2;s1 9 0;");
    goes.pushes(11);
    due(7, "its slips are bits", goes.now(5), 2);
    due(7, "flips with a slip", goes.flips(), 2);
    nowIs(7, goes, 2, 11, 1);
    // The MAT of the STEP it slips to counts as well, and twice DRAG and 1: 9 + 5 - 7 - 4 = 3
    CoilStairs drags = told("d3;s4 1 0;s5 4 2;s1 9 4;");
    drags.pushes(13);
    due(7, "flips with a slip", drags.flips(), 2);
    nowIs(7, drags, 2, 3, 1);
    // To 0 at least: 2 + 1 - 7 is below it.
    CoilStairs low = told("d3;l0;f1;s5 1 0;s1 1 0;s1 1 0;");
    low.pushes(1);
    due(7, "flips", low.flips(), 2);
    nowIs(7, low, 2, 0, 1);
  }

  private static void vigourBounds() {
    CoilStairs x = told("l0;f1;d0;s9 9 0;s9 9 5;s9 9 5;s9 9 5;");
    for (int i = 0; i < 4; i++) x.pushes(20);
    due(8, "pushes to 99 at most", x.pushes(20), 99);
    due(8, "pushes at 99", x.pushes(1), 99);
    due(8, "it counts", x.now(8), 6);
    due(7, "slips with 99", x.now(5), 14);
    // PUSH: 99 at most as well, so more than that changes nothing.
    due(12, "push with 99", x.push(4), 0);
    due(12, "push with 99", x.push(0), NONE);
  }

  private static void pushes() {
    CoilStairs x = four();
    due(8, "pushes(0)", x.pushes(0), BAD);
    due(8, "pushes(21)", x.pushes(21), BAD);
    due(8, "pushes(-1)", x.pushes(-1), BAD);
    due(8, "pushes(least)", x.pushes(LEAST_INT), BAD);
    due(8, "pushes(most)", x.pushes(MOST_INT), BAD);
    due(8, "UNDONE", x.now(8), 0);
    due(8, "pushes(1)", x.pushes(1), 1);
    due(8, "pushes(20)", x.pushes(20), 21);
    nowIs(8, x, 0, 21, 0);
    due(8, "UNDONE", x.now(8), 2);
    CoilStairs floor = new CoilStairs();
    due(8, "pushes(0) on THE FLOOR", floor.pushes(0), BAD);
    due(8, "pushes(1) on THE FLOOR", floor.pushes(1), STATE);
  }

  private static void lifts() {
    CoilStairs x = four();
    x.pushes(5);
    due(9, "lifts(0)", x.lifts(0), STATE);
    due(9, "VIGOUR", x.now(1), 5);
    due(9, "lifts(4)", x.lifts(4), BAD);
    due(9, "lifts(-1)", x.lifts(-1), BAD);
    due(9, "lifts(most)", x.lifts(MOST_INT), BAD);
    due(9, "lifts(least)", x.lifts(LEAST_INT), BAD);
    due(9, "lifts(3)", x.lifts(3), 0);
    nowIs(9, x, 3, 0, 0);
    due(9, "lifts(1)", x.lifts(1), 3);
    due(9, "UNDONE", x.now(8), 3);
    CoilStairs floor = told("s9 1 0;");
    floor.pushes(3);
    floor.flips();
    due(9, "lifts(0) off THE FLOOR", floor.lifts(0), 1);
    nowIs(9, floor, 0, 0, 1);
  }

  private static void lays() {
    CoilStairs x = four();
    due(10, "lays(1, 2)", x.lays(1, 2), STATE);
    due(10, "lays(1, 6)", x.lays(1, 6), BAD);
    due(10, "lays(1, -1)", x.lays(1, -1), BAD);
    due(10, "lays(4, 0)", x.lays(4, 0), BAD);
    due(10, "lays(-1, 0)", x.lays(-1, 0), BAD);
    due(10, "lays(most, least)", x.lays(MOST_INT, LEAST_INT), BAD);
    due(10, "UNDONE", x.now(8), 0);
    due(10, "lays(1, 5)", x.lays(1, 5), 2);
    due(10, "lays(1, 0)", x.lays(1, 0), 5);
    due(10, "step(1, 2)", x.step(1, 2), 0);
    due(10, "UNDONE", x.now(8), 2);
    x.pushes(3);
    x.flips();
    due(10, "VIGOUR by the other MAT", x.now(1), 3);
  }

  private static void undo() {
    CoilStairs x = four();
    due(11, "undo", x.undo(), STATE);
    x.pushes(3);
    x.flips();
    x.lays(2, 5);
    x.lifts(3);
    x.flips();
    x.lays(2, 5);
    x.pushes(0);
    x.undo();
    nowIs(11, x, 1, 1, 1);
    due(11, "undo of lays", x.undo(), 2);
    due(11, "MAT", x.step(2, 2), 0);
    due(11, "undo of flips", x.undo(), 1);
    nowIs(11, x, 0, 3, 0);
    due(11, "undo of pushes", x.undo(), 0);
    nowIs(11, x, 0, 0, 0);
    due(11, "undo", x.undo(), STATE);
    for (int i = 1; i <= 12; i++) x.pushes(1);
    due(11, "UNDONE", x.now(8), 10);
    for (int i = 9; i >= 0; i--) due(11, "undo", x.undo(), i);
    due(11, "older ones are lost", x.now(1), 2);
    due(11, "undo", x.undo(), STATE);
    // Ones that are done behind an undo are known too.
    x.pushes(4);
    x.pushes(5);
    x.undo();
    x.pushes(6);
    due(11, "VIGOUR", x.now(1), 12);
    due(11, "undo", x.undo(), 1);
    due(11, "VIGOUR", x.now(1), 6);
    due(11, "undo", x.undo(), 0);
    due(11, "VIGOUR", x.now(1), 2);
  }

  private static void push() {
    CoilStairs x = four();
    due(12, "push(0)", x.push(0), 0);
    due(12, "push(1)", x.push(1), 3);
    due(12, "push(4)", x.push(4), 5);
    due(12, "push(2)", x.push(2), NONE);
    due(12, "push(5)", x.push(5), BAD);
    due(12, "push(-1)", x.push(-1), BAD);
    due(12, "push(most)", x.push(MOST_INT), BAD);
    due(12, "push(least)", x.push(LEAST_INT), BAD);
    nowIs(12, x, 0, 0, 0);
    due(12, "UNDONE", x.now(8), 0);
    x.pushes(1);
    due(12, "push(1) with VIGOUR 1", x.push(1), 2);
    x.lifts(2);
    due(12, "push(0) from below", x.push(0), NONE);
    due(12, "push(2) where it is", x.push(2), 0);
    // 9 of nine STEPS with MAT 5, STIFF 9, DRAG 3: more than 60 are needed to come down.
    CoilStairs far = told("l9;f9;d3;s1 9 5;s1 9 5;s1 9 5;s1 9 5;s1 9 5;s1 9 5;s1 9 5;");
    due(12, "push(7) by 60 at most", far.push(7), NONE);
    // By 60 it slips from 1 to 7 and lands on 8 with 1 left, just what STIFF is; by 59 with none.
    CoilStairs edge = told("l0;f1;d3;s3 6 4;s3 2 5;s1 4 0;s1 6 1;s2 2 1;s2 2 2;s2 1 5;s1 1 4;s1 8 3;");
    due(12, "push(9) by 60", edge.push(9), 60);
    edge.lays(8, 4);
    due(12, "push(9) by 61", edge.push(9), NONE);
    CoilStairs floor = new CoilStairs();
    due(12, "push(0) on THE FLOOR", floor.push(0), 0);
    due(12, "push(1) on THE FLOOR", floor.push(1), BAD);
    CoilStairs down = told("s9 1 0;");
    down.pushes(3);
    down.flips();
    due(12, "push(1) on THE FLOOR", down.push(1), 0);
    due(12, "push(0) on THE FLOOR", down.push(0), NONE);
  }

  private static void mat() {
    CoilStairs x = four();
    due(13, "mat(4, 0)", x.mat(4, 0), NONE);
    due(13, "mat(0, 5) is the lowest", x.mat(0, 5), 0);
    due(13, "mat(5, 0)", x.mat(5, 0), BAD);
    due(13, "mat(-1, 0)", x.mat(-1, 0), BAD);
    due(13, "mat(0, 6)", x.mat(0, 6), BAD);
    due(13, "mat(0, -1)", x.mat(0, -1), BAD);
    due(13, "mat(most, least)", x.mat(MOST_INT, LEAST_INT), BAD);
    // v 3 comes to rest on 1 by its MAT 2; by a MAT of 0 there it has 3, then 3 - 3 + 5 - 1 = 4 on
    // STEP 2, 4 - 3 + 9 - 1 = 9 less 1 on STEP 3, 8 - 3 + 3 - 1 to THE FLOOR.
    x.pushes(3);
    due(13, "mat(4, 0)", x.mat(4, 0), 1);
    due(13, "mat(1, 0): another STEP", x.mat(1, 0), 0);
    due(13, "mat(1, 2): the MAT it has", x.mat(1, 2), 0);
    due(13, "mat(2, 5)", x.mat(2, 5), NONE);
    due(13, "the MAT stays", x.step(1, 2), 2);
    due(13, "UNDONE", x.now(8), 1);
    x.lays(1, 0);
    due(13, "mat(2, 4)", x.mat(2, 4), 2);
    due(13, "mat(1, 3)", x.mat(1, 3), 1);
    due(13, "mat without STEPS", new CoilStairs().mat(0, 0), NONE);
    due(13, "mat(1, 0) without STEPS", new CoilStairs().mat(1, 0), BAD);
  }

  private static void fraction(CoilStairs x, int chance, int upper, int lower) {
    due(14, "odds(" + chance + ", 0)", x.odds(chance, 0), upper);
    due(14, "odds(" + chance + ", 1)", x.odds(chance, 1), lower);
  }

  private static void odds() {
    CoilStairs x = four();
    due(14, "odds(-1, 0)", x.odds(-1, 0), BAD);
    due(14, "odds(11, 0)", x.odds(11, 0), BAD);
    due(14, "odds(5, 2)", x.odds(5, 2), BAD);
    due(14, "odds(5, -1)", x.odds(5, -1), BAD);
    due(14, "odds(most, least)", x.odds(MOST_INT, LEAST_INT), BAD);
    fraction(x, 5, 0, 1);
    // With v 3 it comes down just if the MAT on STEP 1 slips away.
    x.pushes(3);
    fraction(x, 0, 0, 1);
    fraction(x, 1, 1, 10);
    fraction(x, 4, 2, 5);
    fraction(x, 5, 1, 2);
    fraction(x, 10, 1, 1);
    due(14, "the MAT stays", x.step(1, 2), 2);
    x.pushes(2);
    fraction(x, 5, 1, 1);
    // Eight MATS lie below it; STIFF 1, and 1 more for each STEP, none less: all of them must slip.
    CoilStairs all = told("f1;d0;l9;s1 9 5;s1 9 5;s1 9 5;s1 9 5;s1 9 5;s1 9 5;s1 9 5;s1 9 5;s1 9 5;");
    all.pushes(1);
    fraction(all, 3, 6561, 100000000);
    fraction(all, 9, 43046721, 100000000);
    fraction(all, 5, 1, 256);
    // By v 6 one MAT may stay.
    all.pushes(5);
    fraction(all, 5, 9, 256);
    fraction(new CoilStairs(), 10, 1, 1);
  }

  private static void sees() {
    CoilStairs x = four();
    due(15, "sees(4, 1, 0)", x.sees(4, 1, 0), BAD);
    due(15, "sees(-1, 1, 0)", x.sees(-1, 1, 0), BAD);
    due(15, "sees(0, 0, 0)", x.sees(0, 0, 0), BAD);
    due(15, "sees(0, 61, 0)", x.sees(0, 61, 0), BAD);
    due(15, "sees(0, 1, 5)", x.sees(0, 1, 5), BAD);
    due(15, "sees(0, 1, -1)", x.sees(0, 1, -1), BAD);
    due(15, "sees(most, most, most)", x.sees(MOST_INT, MOST_INT, MOST_INT), BAD);
    due(15, "SEEN", x.count(4), 0);
    due(15, "sees(0, 1, 4)", x.sees(0, 1, 4), 1);
    due(15, "sees(3, 60, 0)", x.sees(3, 60, 0), 2);
    for (int i = 3; i <= 6; i++) due(15, "sees(0, 1, 4)", x.sees(0, 1, 4), i);
    due(15, "sees as the 7th", x.sees(0, 1, 4), FULL);
    due(15, "BAD comes ahead of FULL", x.sees(0, 0, 4), BAD);
    due(15, "SEEN", x.count(4), 6);
    due(15, "UNDONE", x.now(8), 0);
  }

  private static void forget() {
    CoilStairs x = four();
    due(16, "forget", x.forget(), 0);
    x.sees(0, 1, 4);
    x.sees(1, 5, 0);
    due(16, "ways of what can't be", x.ways(0), 0);
    due(16, "forget", x.forget(), 2);
    due(16, "SEEN", x.count(4), 0);
    due(16, "forget again", x.forget(), 0);
    due(16, "ways", x.ways(0), 36);
  }

  private static void ways() {
    // One STEP: it stays if v is less than STIFF, else it comes to THE FLOOR.
    CoilStairs x = told("s5 5 0;");
    due(17, "ways(2)", x.ways(2), BAD);
    due(17, "ways(-1)", x.ways(-1), BAD);
    due(17, "ways(most)", x.ways(MOST_INT), BAD);
    due(17, "ways(0)", x.ways(0), 36);
    due(17, "ways(1)", x.ways(1), 10);
    x.sees(0, 4, 0);
    due(17, "ways(0)", x.ways(0), 20);
    due(17, "ways(1)", x.ways(1), 50);
    x.sees(0, 7, 1);
    due(17, "ways(0)", x.ways(0), 12);
    due(17, "ways(1)", x.ways(1), 50);
    x.sees(0, 4, 1);
    due(17, "ways(0)", x.ways(0), 0);
    due(17, "ways(1)", x.ways(1), NONE);
    due(17, "STIFF stays", x.count(2), 3);
    due(17, "DRAG stays", x.count(3), 1);
    // By v 2 on STEP 0 it rests on 1 if 2 - STIFF + 2 - DRAG is less than STIFF: not for 10, 11, 12,
    // 20 (2 - 2 + 2), but for 13, 21, 22, 23.
    CoilStairs drag = told("l9;s2 9 0;s9 9 0;");
    drag.sees(0, 2, 1);
    due(17, "ways(0)", drag.ways(0), 4);
    due(17, "ways(1)", drag.ways(1), 13);
    // MATS are as they are NOW: with one of 2 on STEP 1 it rests there by 11, 12 and 20 as well.
    drag.lays(1, 2);
    due(17, "ways(0)", drag.ways(0), 7);
    due(17, "ways(1)", drag.ways(1), 11);
    // LONG is as told: by LONG 8 it stands on STEP 1 with 9 (and rests by 83, 91, 92, 93), by LONG 0
    // it slips over it.
    CoilStairs stands = told("l8;s9 1 0;s1 1 0;");
    stands.sees(0, 9, 1);
    due(17, "ways(0)", stands.ways(0), 4);
    due(17, "ways(1)", stands.ways(1), 83);
    CoilStairs slips = told("l0;s9 1 0;s1 1 0;");
    slips.sees(0, 9, 1);
    due(17, "ways(0)", slips.ways(0), 0);
  }

  private static void next() {
    CoilStairs x = told("s5 5 0;");
    due(18, "next(1)", x.next(1), BAD);
    due(18, "next(-1)", x.next(-1), BAD);
    due(18, "next(most)", x.next(MOST_INT), BAD);
    due(18, "next(least)", x.next(LEAST_INT), BAD);
    // 36 ways: v 4 lets 16 of them down and 20 stay, v 5 the other way round: the least of both.
    due(18, "next(0)", x.next(0), 4);
    x.sees(0, 4, 0);
    // 20 ways, STIFF 5 .. 9: v 6 parts them 8 to 12, v 7 12 to 8.
    due(18, "next(0)", x.next(0), 6);
    x.sees(0, 5, 1);
    // Four ways by the same STIFF: nothing parts them, so it is the least.
    due(18, "next(0)", x.next(0), 1);
    x.sees(0, 5, 0);
    due(18, "next without a way", x.next(0), NONE);
    nowIs(18, x, 0, 0, 0);
    // Just one way: 13 of those of v 2 (13, 21, 22, 23), as by v 1 only STIFF 1 goes down.
    CoilStairs only = told("s2 9 0;s9 9 0;");
    only.sees(0, 2, 1);
    only.sees(1, 1, 2);
    due(18, "the only way", only.ways(0), 1);
    due(18, "the only way", only.ways(1), 13);
    due(18, "next with one way", only.next(0), NONE);
    // 60 is the last that is tried: it alone parts 73, 83 and 93 from one another.
    CoilStairs last = told("l0;s3 4 4;s3 6 4;s1 1 5;s1 3 3;s2 3 3;s3 8 0;s3 9 3;s2 2 3;");
    last.sees(0, 41, 4);
    due(18, "ways(0)", last.ways(0), 3);
    due(18, "next by 60", last.next(0), 60);
    due(18, "next without STEPS", new CoilStairs().next(0), BAD);
  }

  private static void rate() {
    CoilStairs x = told("s4 3 0;s5 2 2;s9 1 0;s3 6 5;");
    x.pushes(7);
    int[] due = {3, 9, 3 - 10, 18, 3 - 10 + 3, 10};
    for (int kind = 0; kind <= 5; kind++) due(19, "rate(" + kind + ", 3)", x.rate(kind, 3), due[kind]);
    due(19, "rate(2, 1)", x.rate(2, 1), 1);
    x.lays(1, 5);
    due(19, "rate(2, 1) by the MAT laid", x.rate(2, 1), -5);
    due(19, "rate(4, 1) by the MAT laid", x.rate(4, 1), -4);
    long before = x.trace();
    due(19, "rate(6, 0)", x.rate(6, 0), NO);
    due(19, "rate(-1, 0)", x.rate(-1, 0), NO);
    due(19, "rate(0, 4)", x.rate(0, 4), NO);
    due(19, "rate(0, -1)", x.rate(0, -1), NO);
    due(19, "rate(most, least)", x.rate(MOST_INT, LEAST_INT), NO);
    due(19, "THE TRACE stays", x.trace(), before);
  }

  private static void keep() {
    CoilStairs x = four();
    due(20, "keep(-1)", x.keep(-1), BAD);
    due(20, "keep(2)", x.keep(2), BAD);
    due(20, "keep(most)", x.keep(MOST_INT), BAD);
    due(20, "keep(0)", x.keep(0), 0);
    due(20, "back(1)", x.back(1), STATE);
    x.lifts(2);
    due(20, "keep(1)", x.keep(1), 2);
    due(20, "UNDONE", x.now(8), 1);
    x.lifts(3);
    due(20, "keep(0) anew", x.keep(0), 3);
    due(20, "back(0)", x.back(0), 3);
    due(20, "back(1)", x.back(1), 2);
  }

  private static void back() {
    CoilStairs x = four();
    due(21, "back(0)", x.back(0), STATE);
    due(21, "back(2)", x.back(2), BAD);
    due(21, "back(-1)", x.back(-1), BAD);
    due(21, "back(least)", x.back(LEAST_INT), BAD);
    x.pushes(3);
    x.flips();
    x.lays(0, 4);
    x.keep(1);
    x.lays(0, 1);
    x.lays(3, 3);
    x.pushes(9);
    x.flips();
    x.sees(0, 1, 0);
    x.rate(0, 0);
    more(x, "l1");
    due(21, "back(1)", x.back(1), 1);
    nowIs(21, x, 1, 1, 1);
    due(21, "MAT 0", x.step(0, 2), 4);
    due(21, "MAT 3", x.step(3, 2), 1);
    due(21, "UNDONE", x.now(8), 0);
    due(21, "undo", x.undo(), STATE);
    due(21, "SEEN stays", x.count(4), 1);
    due(21, "THE TEXT stays", x.count(5), 2);
    due(21, "THE TRACE stays", x.trace(), 1);
    x.pushes(1);
    due(21, "UNDONE behind it", x.now(8), 1);
    due(21, "back(1) again", x.back(1), 1);
    due(21, "VIGOUR", x.now(1), 1);
    // A refused one leaves what can be UNDONE.
    x.pushes(1);
    x.back(0);
    x.back(3);
    due(21, "UNDONE", x.now(8), 1);
  }

  private static void count() {
    CoilStairs x = told("s4 3 0;s5 2 2;l7;f8;d2;");
    x.sees(0, 1, 0);
    more(x, "abc");
    int[] due = {2, 7, 8, 2, 1, 3};
    for (int what = 0; what <= 5; what++) due(22, "count(" + what + ")", x.count(what), due[what]);
    due(22, "count(6)", x.count(6), BAD);
    due(22, "count(-1)", x.count(-1), BAD);
    due(22, "count(most)", x.count(MOST_INT), BAD);
    due(22, "count(least)", x.count(LEAST_INT), BAD);
  }

  private static void trace() {
    long[] adds = {1, 11, 101, 1011, 10101, 100001};
    CoilStairs x = four();
    long sum = 0;
    due(23, "trace", x.trace(), 0);
    for (int kind = 0; kind <= 5; kind++) {
      x.rate(kind, 0);
      sum += adds[kind];
      due(23, "trace behind kind " + kind, x.trace(), sum);
    }
    x.rate(3, 1);
    due(23, "trace behind kind 3 again", x.trace(), sum + 1011);
    x.now(3);
    x.next(0);
    due(23, "trace behind other calls", x.trace(), sum + 1011);
  }
}

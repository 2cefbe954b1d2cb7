import java.util.ArrayList;
import java.util.List;
import java.util.regex.Matcher;
import java.util.regex.Pattern;

/**
 * Each sentence of the document that names a boundary case, with runs of its own: at the bound, one
 * below it, one above it. The answers are worked out by hand from the document's words.
 *
 * A run is a text: 'letters' are typed one by one (each must be counted); name(a,b)=answer is a call
 * with the answer that is due; name(a,b) alone is a call whose answer is not looked at.
 *
 * Behind each call that was refused, and behind each one that only asks, the whole object is compared
 * with a twin that was given the same calls but for that one: nothing may have changed.
 *
 * No run looks at an answer behind an object's 512th call: the document leaves those free. So nothing here
 * comes to 999 FLIPS, as a call adds one FLIP at most.
 */
public final class CoilStairsBounds {
  private static final int CALLS_PROMISED = 512;
  private static final String NINE = "s1 1 0;".repeat(9);
  /** By DRAG 3 it has 11 less behind each of these over which it slips: 5 by the MAT, 1 - 7 by the slip. */
  private static final String SEVEN_SLIPPERY = "s1 1 5;".repeat(7);

  private static int wrong = 0;
  private static int sentences = 0;
  private static int answers = 0;
  private static int twins = 0;

  public static void main(String[] args) {
    howManySteps();
    howMuchEach();
    theText();
    tokensAndBlanks();
    faults();
    atFirst();
    vigourAtMost();
    restsOrGoesDown();
    zeroAtLeast();
    lands();
    slips();
    pushed();
    lifted();
    laid();
    undone();
    undoneTenKnown();
    run();
    push();
    least();
    mat();
    seen();
    ways();
    tries();
    odds();
    kinds();
    images();
    readAnew();
    whatNumbers();
    refusedInOrder();
    System.out.println(sentences + " sentences, " + answers + " answers, " + twins + " twins compared, "
        + wrong + " not as due");
    if (wrong != 0) System.exit(1);
  }

  // ---- Terms 1

  private static void howManySteps() {
    sentence(4, "STEPS (9 at most)",
        "stairs()=0 count(0)=0 step(0,0)=BAD",
        "'s1 1 0;' stairs()=1 count(0)=1 step(0,0)=1 step(1,0)=BAD",
        "'" + "s1 1 0;".repeat(8) + "' stairs()=8 count(0)=8 step(7,0)=1 step(8,0)=BAD",
        "'" + NINE + "' stairs()=9 count(0)=9 step(8,0)=1 step(9,0)=BAD",
        "'" + NINE + "s1 1 0;' stairs()=-73 count(0)=0 count(5)=70",
        "'s2 2 2;' stairs()=1 '" + NINE + "s' stairs()=-73 count(0)=1 step(0,0)=2");
    sentence(5, "from the top on",
        "'s1 2 3;s4 5 0;' stairs()=2 step(0,0)=1 step(0,1)=2 step(0,2)=3 step(1,0)=4 step(1,1)=5 step(1,2)=0");
    sentence(6, "THE FLOOR is behind the last one (told as how many STEPS there are)",
        "now(0)=0 now(3)=0 push(0)=0 push(1)=BAD",
        "'s1 1 0;' stairs()=1 pushes(3)=3 flips()=1 now(0)=1 flips()=STATE",
        "'" + NINE + "' stairs()=9 lifts(8)=0 pushes(3)=3 now(3)=9 flips()=9 now(0)=9 flips()=STATE",
        "'" + NINE + "' stairs()=9 lifts(7)=0 pushes(3)=3 flips()=8 pushes(3)=3 flips()=9 flips()=STATE");
  }

  private static void howMuchEach() {
    sentence(4, "HIGH (1 .. 9)",
        "'s0 1 0;' stairs()=-11 count(0)=0",
        "'s1 1 0;' stairs()=1 step(0,0)=1",
        "'s2 1 0;s8 1 0;' stairs()=2 step(0,0)=2 step(1,0)=8",
        "'s9 1 0;' stairs()=1 step(0,0)=9",
        "'s10 1 0;' stairs()=-11 count(0)=0");
    sentence(4, "DEEP (1 .. 9)",
        "'s1 0 0;' stairs()=-13 count(0)=0",
        "'s1 1 0;' stairs()=1 step(0,1)=1",
        "'s1 2 0;s1 8 0;' stairs()=2 step(0,1)=2 step(1,1)=8",
        "'s1 9 0;' stairs()=1 step(0,1)=9",
        "'s1 10 0;' stairs()=-13 count(0)=0");
    sentence(4, "MAT (0 .. 5)",
        "'s1 1 0;' stairs()=1 step(0,2)=0",
        "'s1 1 1;s1 1 4;' stairs()=2 step(0,2)=1 step(1,2)=4",
        "'s1 1 5;' stairs()=1 step(0,2)=5",
        "'s1 1 6;' stairs()=-15 count(0)=0",
        "'s1 1 -1;' stairs()=-15 count(0)=0");
    sentence(4, "LONG (0 .. 9; 4 at first)",
        "count(1)=4", "stairs()=0 count(1)=4", "'f1;d0;' stairs()=2 count(1)=4",
        "'l0;' stairs()=1 count(1)=0", "'l1;' stairs()=1 count(1)=1", "'l8;' stairs()=1 count(1)=8",
        "'l9;' stairs()=1 count(1)=9", "'l10;' stairs()=-11 count(1)=4", "'l-1;' stairs()=-11 count(1)=4");
    sentence(4, "STIFF (1 .. 9; 3 at first)",
        "count(2)=3", "stairs()=0 count(2)=3", "'l1;d0;' stairs()=2 count(2)=3",
        "'f0;' stairs()=-11 count(2)=3", "'f1;' stairs()=1 count(2)=1", "'f2;' stairs()=1 count(2)=2",
        "'f8;' stairs()=1 count(2)=8", "'f9;' stairs()=1 count(2)=9", "'f10;' stairs()=-11 count(2)=3");
    sentence(4, "DRAG (0 .. 3; 1 at first)",
        "count(3)=1", "stairs()=0 count(3)=1", "'l1;f2;' stairs()=2 count(3)=1",
        "'d0;' stairs()=1 count(3)=0", "'d2;' stairs()=1 count(3)=2", "'d3;' stairs()=1 count(3)=3",
        "'d4;' stairs()=-11 count(3)=1", "'d-1;' stairs()=-11 count(3)=1");
  }

  private static void theText() {
    String blanks98 = " ".repeat(98);
    sentence(2, "a text (100 letters at most); FULL",
        "'" + blanks98 + "' type(32)=99 type(32)=100 type(32)=FULL type(0)=FULL type(255)=FULL count(5)=100",
        "'" + blanks98 + "  ' type(108)=FULL stairs()=0 count(5)=0 type(108)=1",
        "'" + blanks98 + "  ' type(108)=FULL clear()=100 type(108)=1 count(5)=1",
        "'" + " ".repeat(97) + "l1' type(59)=100 stairs()=1 count(1)=1",
        "'" + blanks98 + "l1' type(59)=FULL stairs()=-110 count(1)=4 count(5)=100");
    sentence(2, "A letter (0 .. 255) comes to THE TEXT",
        "type(-1)=BAD type(256)=BAD type(MIN)=BAD type(MAX)=BAD count(5)=0",
        "type(0)=1 type(1)=2 type(254)=3 type(255)=4 count(5)=4 stairs()=-10");
    sentence(3, "THE TEXT is empty: how many letters it had",
        "clear()=0 clear()=0",
        "'x' clear()=1 count(5)=0 clear()=0 stairs()=0",
        "'" + blanks98 + "xx' clear()=100 count(5)=0 stairs()=0",
        "'s2 2 2;' stairs()=1 pushes(4) sees(0,1,0) keep(0) rate(0,0) 'l1;' clear()=3"
            + " count(0)=1 count(4)=1 now(1)=4 now(8)=1 trace()=1 back(0)=0");
    sentence(4, "THE TEXT tells all anew, and is empty then: how many ITEMS",
        "stairs()=0 stairs()=0",
        "'   ' stairs()=0 count(5)=0",
        "'l1;' stairs()=1 count(5)=0 stairs()=0 count(1)=4",
        "'" + NINE + "l0;f1;d0;' stairs()=12 count(5)=0");
  }

  private static void tokensAndBlanks() {
    sentence(4, "blanks (32) between TOKENS",
        "'  l   1  ;  ' stairs()=1 count(1)=1",
        "'l1;f2;' stairs()=2 count(1)=1 count(2)=2",
        "'s 1 1 0;s1 1 0 ;' stairs()=2",
        "'l1' type(31)=3 ';' stairs()=-12", "'l1' type(33)=3 ';' stairs()=-12",
        "'l1' type(9)=3 ';' stairs()=-12", "'l1' type(10)=3 ';' stairs()=-12",
        "'l1' type(160)=3 ';' stairs()=-12", "'l1' type(0)=3 ';' stairs()=-12");
    sentence(4, "blanks stand between TOKENS, not inside a NUMBER",
        "'s111;' stairs()=-11", "'s11 1;' stairs()=-11", "'s1 11;' stairs()=-13", "'l1 0;' stairs()=-13");
    sentence(4, "ITEMS, each ended by ;",
        "'l1' stairs()=-12", "'l1;' stairs()=1", "'l1;;' stairs()=-13", "';' stairs()=-10",
        "'l1 f2;' stairs()=-13", "'s1 1 1' stairs()=-16", "'s1 1 1;' stairs()=1");
    sentence(4, "s H D M: three NUMBERS, no fewer and no more",
        "'s;' stairs()=-11", "'s1;' stairs()=-12", "'s1 1;' stairs()=-14", "'s1 1 1;' stairs()=1",
        "'s1 1 1 1;' stairs()=-17");
    sentence(4, "l N, f N, d N: one NUMBER",
        "'l;' stairs()=-11", "'l1 1;' stairs()=-13", "'f;' stairs()=-11", "'f1 1;' stairs()=-13",
        "'d;' stairs()=-11", "'d1 1;' stairs()=-13");
    sentence(4, "l, f, d once at most each",
        "'l1;' stairs()=1", "'l1;l1;' stairs()=-13 count(1)=4", "'f1;f1;' stairs()=-13 count(2)=3",
        "'d0;d0;' stairs()=-13 count(3)=1", "'l1;f1;d0;l' stairs()=-19",
        "'l1;' stairs()=1 'l2;' stairs()=1 count(1)=2");
  }

  private static void faults() {
    sentence(4, "FAULT: the place of the first letter of the first TOKEN that can't stand there",
        "'5' stairs()=-10", "'  5' stairs()=-12", "'l l' stairs()=-12", "'ls' stairs()=-11", "'l1;5' stairs()=-13",
        "'" + " ".repeat(99) + ";' stairs()=-109", "'l1;l1;x' stairs()=-13", "'x l10;' stairs()=-10");
    sentence(4, "a tenth s, too", "'" + NINE + " s' stairs()=-74", "'" + NINE + "l1;s1 1 0;' stairs()=-76");
    sentence(4, "a NUMBER beyond what it may be, too",
        "'l  10;' stairs()=-13", "'f 0;' stairs()=-12", "'d  4;' stairs()=-13", "'s1 1  6;' stairs()=-16",
        "'l99;' stairs()=-11");
    sentence(4, "of any other letter that TOKEN's",
        "'x' stairs()=-10", "'S1 1 0;' stairs()=-10", "'l1;  :' stairs()=-15", "'l+1;' stairs()=-11",
        "'lx' stairs()=-11", "'l1x;' stairs()=-12", "type(255)=1 stairs()=-10", "type(0)=1 stairs()=-10");
    sentence(4, "a NUMBER above 99",
        "'l100;' stairs()=-11", "'l  100;' stairs()=-13", "'100' stairs()=-10",
        "'s1 4294967297 1;' stairs()=-13", "'l18446744073709551617;' stairs()=-11");
    sentence(4, "a NUMBER with a 0 ahead of others",
        "'l0;' stairs()=1", "'l00;' stairs()=-11", "'l01;' stairs()=-11", "'l 09;' stairs()=-12",
        "'s1 01 0;' stairs()=-13", "'s1 1 00;' stairs()=-15");
    sentence(4, "the text's length, if it ends too early",
        "'s' stairs()=-11", "'s1' stairs()=-12", "'s1 ' stairs()=-13", "'s1 1' stairs()=-14", "'s1 1 1' stairs()=-16",
        "'l' stairs()=-11", "'l   ' stairs()=-14", "'l1' stairs()=-12", "'l1  ' stairs()=-14",
        "'" + " ".repeat(99) + "d' stairs()=-110");
    sentence(4, "-10 less FAULT: nothing changes",
        "'s5 4 3;f2;' stairs()=2 pushes(9) lays(0,1) sees(0,1,0) keep(0) pushes(1) keep(1) rate(3,0) 's1 1 1;x'"
            + " stairs()=-17 count(5)=8 stairs()=-17 count(0)=1 count(2)=2 count(4)=1 now(1)=10 now(8)=3"
            + " step(0,0)=5 step(0,2)=1 trace()=1011 back(0)=0 now(1)=9 back(1)=0 now(1)=10",
        "'s1 1 1;l' stairs()=-18 '1;' stairs()=2 count(0)=1 count(1)=1");
  }

  // ---- Terms 2

  private static void atFirst() {
    String asAtFirst = "now(0)=0 now(1)=0 now(2)=0 now(3)=0 now(4)=0 now(5)=0 now(8)=0 count(4)=0 undo()=STATE"
        + " back(0)=STATE back(1)=STATE trace()=0 ";
    sentence(1, "As told; no STEPS",
        asAtFirst + "count(0)=0 count(1)=4 count(2)=3 count(3)=1 count(5)=0 now(6)=0 now(7)=0 ways(0)=36");
    sentence(1, "on STEP 0 at first (on THE FLOOR, if there is none)",
        asAtFirst + "flips()=STATE pushes(1)=STATE lifts(0)=BAD lays(0,0)=BAD odds(0,0)=1 odds(0,1)=1 mat(0,0)=NONE",
        "stairs()=0 " + asAtFirst + "flips()=STATE pushes(1)=STATE",
        "'l1;' stairs()=1 " + asAtFirst + "flips()=STATE pushes(1)=STATE",
        "'s1 1 0;' stairs()=1 " + asAtFirst + "lifts(0)=STATE flips()=STATE pushes(1)=1");
  }

  private static void vigourAtMost() {
    String eighty = "pushes(20)=20 pushes(20)=40 pushes(20)=60 pushes(20)=80 ";
    sentence(8, "VIGOUR 0 (99 at most): PUSHED",
        "'s1 1 0;' stairs()=1 " + eighty + "pushes(18)=98 pushes(1)=99 pushes(1)=99 pushes(20)=99 now(8)=8",
        "'s1 1 0;' stairs()=1 " + eighty + "pushes(19)=99 undo()=4 now(1)=80",
        "'s1 1 0;' stairs()=1 " + eighty + "pushes(20)=99 now(1)=99 undo()=4 now(1)=80");
    // v - 1 + 9 - 3; then 11 less by each of seven STEPS, and the MAT of the last: 82 less. So 98, 99
    // and what would be 100 and 104 come to STEP 8 with 16, 17, 17 and 17, where 17 may stand.
    String far = "'l9;f1;d3;s9 1 0;" + SEVEN_SLIPPERY + "s1 8 5;' stairs()=12 " + eighty;
    sentence(7, "VIGOUR 0 (99 at most): by a FLIP",
        far + "pushes(13)=93 flips()=8 now(1)=16", far + "pushes(14)=94 flips()=8 now(1)=17",
        far + "pushes(15)=95 flips()=8 now(1)=17", far + "pushes(19)=99 flips()=8 now(1)=17");
    // That a SLIP holds it to 99 can't be seen: from 99 on STEP 2, or what would be more, it has 28 or more
    // on STEP 8, where 18 may stand at most, so it comes to THE FLOOR in any case.

    // v - 9 + 1 - 3; by 99 it comes to STEP 8 with 6, where 6 may stand and rest; 100 would slip. By 80 it
    // has 3 less 5 on STEP 7; by 84 it has 7 less 5, and slips to STEP 8.
    String held = "'l0;f9;d3;s1 1 0;" + SEVEN_SLIPPERY + "s1 6 5;' stairs()=12 " + eighty;
    sentence(12, "VIGOUR 0 (99 at most): PUSH",
        held + "push(7)=0 push(8)=4 push(9)=NONE pushes(19)=99 push(8)=0 push(9)=NONE",
        held.replace("s1 6 5;", "s1 5 5;") + "push(9)=19 pushes(18)=98 push(9)=1 pushes(1)=99 push(9)=0 push(8)=NONE");
    sentence(6, "VIGOUR 0 (99 at most): LEAST",
        held + "pushes(19)=99 now(6)=3 now(7)=0",
        held + "lifts(8)=0 " + eighty + "pushes(19)=99 now(6)=0 now(7)=0");
  }

  private static void restsOrGoesDown() {
    sentence(7, "if VIGOUR is less than STIFF, it RESTS: VIGOUR is 0",
        "'f1;s1 9 0;' stairs()=2 flips()=STATE pushes(1)=1 flips()=1",
        "'s1 9 0;s1 9 0;' stairs()=2 pushes(2)=2 flips()=0 now(0)=0 now(1)=0 now(2)=1 flips()=STATE",
        "'s1 9 0;s1 9 0;' stairs()=2 pushes(3)=3 flips()=1 now(1)=0 now(2)=1",
        "'s1 9 0;s1 9 0;' stairs()=2 pushes(4)=4 flips()=1 now(1)=1 now(2)=1",
        "'f9;s5 9 0;s1 9 0;' stairs()=3 pushes(8)=8 flips()=0 now(1)=0",
        "'f9;s5 9 0;s1 9 0;' stairs()=3 pushes(9)=9 flips()=1 now(1)=4");
    sentence(7, "There is one FLIP more, also if it RESTS",
        "'s1 9 0;' stairs()=1 pushes(1) flips()=0 now(2)=1 pushes(1) flips()=0 now(2)=2 pushes(3) flips()=1 now(2)=3",
        "'l0;f1;d0;" + "s9 1 0;".repeat(9) + "' stairs()=12 pushes(1) flips()=9 now(2)=1");
    sentence(7, "STATE: on THE FLOOR, VIGOUR is 0",
        "flips()=STATE now(2)=0",
        "'s1 1 0;' stairs()=1 flips()=STATE now(2)=0 now(8)=0 pushes(1) flips()=0 flips()=STATE now(2)=1 now(8)=2",
        "'s1 1 0;' stairs()=1 pushes(20) flips()=1 flips()=STATE now(0)=1 now(2)=1 now(8)=2");
  }

  private static void zeroAtLeast() {
    // v - 1 + 1 - 3
    String drag = "'d3;f1;s1 9 0;s9 9 0;' stairs()=4 ";
    sentence(7, "VIGOUR is .. DRAG less (0 at least)",
        drag + "pushes(1) flips()=1 now(1)=0 flips()=STATE", drag + "pushes(2) flips()=1 now(1)=0",
        drag + "pushes(3) flips()=1 now(1)=0", drag + "pushes(4) flips()=1 now(1)=1");
    // v - 1 + 1 - 1, less 5
    String mat = "'f1;s1 9 0;s9 9 5;' stairs()=3 ";
    sentence(7, "VIGOUR is MAT less (0 at least)",
        mat + "pushes(5) flips()=1 now(1)=0 flips()=STATE", mat + "pushes(6) flips()=1 now(1)=0",
        mat + "pushes(7) flips()=1 now(1)=1", mat + "lays(1,0)=5 pushes(2) flips()=1 now(1)=1");
    // v - 1 + 5 - 3 is v + 1 on STEP 1, where 1 may stand; it slips: v + 1 + 1 - 7
    String slip = "'d3;l0;f1;s5 1 0;s1 1 0;s1 1 0;' stairs()=6 ";
    sentence(7, "it SLIPS: VIGOUR is .. twice DRAG and 1 less (0 at least)",
        slip + "pushes(1) flips()=2 now(1)=0 flips()=STATE", slip + "pushes(4) flips()=2 now(1)=0",
        slip + "pushes(5) flips()=2 now(1)=0", slip + "pushes(6) flips()=2 now(1)=1");
  }

  private static void lands() {
    sentence(7, "It LANDS on THE FLOOR: VIGOUR is 0",
        "'s9 1 0;' stairs()=1 pushes(3) flips()=1 now(1)=0", "'s9 1 0;' stairs()=1 pushes(20) flips()=1 now(1)=0",
        "'l0;f1;s9 1 0;s9 1 0;' stairs()=4 pushes(5) flips()=2 now(0)=2 now(1)=0 now(2)=1");
    // The MAT of the STEP from which it goes makes no difference; that of each STEP on which it lands does.
    sentence(7, "It LANDS on a STEP: VIGOUR is MAT less",
        "'s5 9 5;s5 9 0;' stairs()=2 pushes(3) flips()=1 now(1)=4", "'s5 9 0;s5 9 3;' stairs()=2 pushes(3) flips()=1 now(1)=1");
  }

  private static void slips() {
    // v - 1 + 1 on STEP 1
    String least = "'l0;f1;d0;s1 9 0;s1 1 0;s1 9 0;' stairs()=6 ";
    sentence(7, "if it is more than LONG and DEEP together, it SLIPS over that one: LONG 0, DEEP 1",
        least + "pushes(1) now(5)=0 flips()=1 now(1)=1", least + "pushes(2) now(5)=2 flips()=2 now(1)=2 now(2)=1");
    String most = "'l9;f1;d0;s1 9 0;s1 9 0;s1 9 5;' stairs()=6 ";
    sentence(7, "if it is more than LONG and DEEP together, it SLIPS over that one: LONG 9, DEEP 9",
        most + "pushes(17) flips()=1 now(1)=17", most + "pushes(18) flips()=1 now(1)=18",
        most + "pushes(19) now(5)=2 flips()=2 now(1)=14");
    // LONG 4, DEEP 2; v - 3 + 5 - 1, less 3 on STEP 1: v - 2, as it is behind the MAT.
    String mat = "'s5 1 0;s2 2 3;s1 9 0;' stairs()=3 ";
    sentence(7, "it is more than LONG and DEEP behind the MAT",
        mat + "pushes(8) flips()=1 now(1)=6", mat + "pushes(9) flips()=2 now(1)=6",
        mat + "lays(1,2) pushes(8) flips()=2 now(1)=6", mat + "lays(1,4) pushes(9) flips()=1 now(1)=6");
    // v - 3 + 5 - 1 = v + 1 on STEP 1 (6 may stand), less 1 on STEP 2 by 2 - 3, less its MAT 2 (5 may stand)
    String anew = "'s5 1 0;s2 2 0;s9 1 2;s1 9 0;' stairs()=4 ";
    sentence(7, "it is one STEP down, and LANDS anew",
        anew + "pushes(5) flips()=1 now(1)=6", anew + "pushes(6) now(5)=2 flips()=2 now(1)=4",
        anew + "pushes(7) now(5)=2 flips()=2 now(1)=5", anew + "pushes(8) now(5)=6 flips()=3 now(1)=12 now(2)=1");
  }

  private static void pushed() {
    sentence(8, "PUSHED by k (1 .. 20): VIGOUR is k more",
        "'s1 1 0;' stairs()=1 pushes(0)=BAD pushes(-1)=BAD pushes(1)=1 pushes(2)=3",
        "'s1 1 0;' stairs()=1 pushes(19)=19 pushes(20)=39 pushes(21)=BAD now(1)=39 now(8)=2",
        "'s1 1 0;' stairs()=1 pushes(MIN)=BAD pushes(MAX)=BAD pushes(-20)=BAD now(1)=0 now(8)=0");
    sentence(8, "STATE: on THE FLOOR",
        "pushes(1)=STATE pushes(20)=STATE", "'s1 1 0;' stairs()=1 pushes(3) flips()=1 pushes(1)=STATE now(1)=0 now(8)=2",
        "'s1 1 0;' stairs()=1 pushes(3) flips()=1 lifts(0)=1 pushes(1)=1");
  }

  private static void lifted() {
    String two = "'s1 1 0;s1 1 0;' stairs()=2 ";
    sentence(9, "LIFTED: it is on another STEP, VIGOUR 0",
        two + "pushes(2) flips() pushes(5) lifts(1)=0 now(0)=1 now(1)=0 now(2)=1 now(8)=4",
        two + "lifts(1)=0 pushes(3) flips()=2 lifts(0)=2 now(0)=0", two + "lifts(1)=0 pushes(3) flips()=2 lifts(1)=2 now(0)=1");
    sentence(9, "BAD: there is no such STEP",
        two + "lifts(-1)=BAD lifts(2)=BAD lifts(MIN)=BAD lifts(MAX)=BAD now(8)=0", "lifts(0)=BAD lifts(-1)=BAD",
        two + "lifts(1)=0 pushes(3) flips()=2 lifts(2)=BAD lifts(3)=BAD",
        "'" + NINE + "' stairs()=9 lifts(9)=BAD lifts(8)=0 lifts(7)=8");
    sentence(9, "STATE: it is there",
        two + "lifts(0)=STATE pushes(5) lifts(0)=STATE now(1)=5 now(8)=1", two + "lifts(1)=0 lifts(1)=STATE now(8)=1");
  }

  private static void laid() {
    String two = "'s1 1 0;s1 1 3;' stairs()=2 ";
    sentence(10, "LAID: the MAT till then; MAT (0 .. 5)",
        two + "lays(0,-1)=BAD lays(0,6)=BAD lays(0,MIN)=BAD lays(0,MAX)=BAD step(0,2)=0 now(8)=0",
        two + "lays(0,1)=0 lays(0,4)=1 lays(0,5)=4 lays(0,0)=5 step(0,2)=0 step(1,2)=3 now(8)=4");
    sentence(10, "BAD: there is no such STEP",
        two + "lays(-1,0)=BAD lays(2,0)=BAD lays(MIN,0)=BAD lays(MAX,0)=BAD now(8)=0", "lays(0,0)=BAD lays(0,5)=BAD",
        "'" + NINE + "' stairs()=9 lays(9,1)=BAD lays(8,1)=0");
    sentence(10, "STATE: it is that",
        two + "lays(0,0)=STATE lays(1,3)=STATE now(8)=0 lays(1,2)=3 lays(1,2)=STATE lays(1,3)=2 now(8)=2",
        two + "lays(1,5)=3 lays(1,5)=STATE lays(1,4)=5");
  }

  private static void undone() {
    String two = "'s1 1 0;s1 1 3;' stairs()=2 ";
    sentence(11, "STATE: none",
        "undo()=STATE", two + "undo()=STATE pushes(1) undo()=0 undo()=STATE now(1)=0");
    sentence(11, "UNDONE: the latest flips(), pushes(), lifts(), lays()",
        two + "pushes(3) flips()=1 now(8)=2 undo()=1 now(0)=0 now(1)=3 now(2)=0 undo()=0 now(1)=0",
        two + "pushes(2) flips()=0 undo()=1 now(0)=0 now(1)=2 now(2)=0",
        two + "pushes(7) lifts(1)=0 undo()=1 now(0)=0 now(1)=7",
        two + "lays(1,5)=3 undo()=0 step(1,2)=3", two + "pushes(20) flips()=2 undo()=1 now(0)=0 now(1)=20 now(2)=0",
        two + "lays(0,5) lifts(1) pushes(4) flips()=2 undo()=3 undo()=2 undo()=1 now(0)=0 step(0,2)=5 undo()=0 step(0,2)=0");
    sentence(11, "that was not refused",
        two + "pushes(4) pushes(0)=BAD flips()=1 lifts(1)=STATE lifts(2)=BAD lays(1,3)=STATE lays(1,6)=BAD now(8)=2"
            + " undo()=1 now(1)=4 undo()=0 now(1)=0");
    sentence(11, "nothing else is UNDONE",
        two + "pushes(4) 'l1' keep(0)=0 sees(0,1,0)=1 rate(0,0)=1 forget()=1 sees(0,1,0)=1 now(8)=1 undo()=0 undo()=STATE"
            + " count(4)=1 count(5)=2 trace()=1 back(0)=0 now(1)=4");
  }

  private static void undoneTenKnown() {
    String one = "'s1 1 0;s1 1 0;' stairs()=2 ";
    String allTen = "undo()=9 undo()=8 undo()=7 undo()=6 undo()=5 undo()=4 undo()=3 undo()=2 undo()=1 undo()=0 ";
    sentence(11, "10 are known, older ones are lost",
        one + times(9, "pushes(1)") + "now(8)=9 undo()=8 now(1)=8 " + allTen.substring(18) + "now(1)=0 undo()=STATE",
        one + times(10, "pushes(1)") + "now(8)=10 " + allTen + "now(1)=0 undo()=STATE",
        one + times(11, "pushes(1)") + "now(8)=10 " + allTen + "now(1)=1 undo()=STATE now(1)=1",
        one + times(12, "pushes(1)") + "now(8)=10 " + allTen + "now(1)=2 undo()=STATE");
    sentence(11, "the eleventh thing, of each sort",
        one + "lays(0,5) " + times(10, "pushes(1)") + allTen + "now(1)=0 step(0,2)=5 undo()=STATE",
        one + "lifts(1) " + times(10, "pushes(1)") + allTen + "now(0)=1 now(1)=0 undo()=STATE",
        one + "pushes(1) flips() " + times(10, "pushes(1)") + allTen + "now(2)=1 now(1)=0 undo()=STATE",
        one + times(10, "pushes(1)") + "lays(0,5)=0 now(8)=10 undo()=9 step(0,2)=0 now(1)=10",
        one + times(10, "pushes(1)") + "lifts(1)=0 now(8)=10 undo()=9 now(0)=0 now(1)=10",
        one + times(10, "pushes(1)") + "flips()=2 now(8)=10 undo()=9 now(0)=0 now(1)=10");
    sentence(11, "a refused one as the eleventh takes no room",
        one + times(10, "pushes(1)") + "pushes(21)=BAD lifts(0)=STATE lays(0,0)=STATE now(8)=10 " + allTen + "now(1)=0");
    sentence(11, "room that is UNDONE is used again",
        one + times(25, "pushes(1)") + allTen + "now(1)=15 " + times(11, "pushes(1)") + "now(8)=10 " + allTen + "now(1)=16 undo()=STATE",
        one + times(10, "pushes(1)") + times(4, "undo()") + "now(1)=6 now(8)=6 " + times(5, "pushes(2)") + "now(8)=10 "
            + allTen + "now(1)=1 undo()=STATE");
  }

  // ---- Terms 3

  private static void run() {
    sentence(6, "RUN: how many FLIPS (0, if VIGOUR is 0)",
        "now(3)=0 now(4)=0 now(5)=0", "'s1 1 0;' stairs()=1 now(3)=0 now(4)=0 now(5)=0",
        "'s1 1 0;' stairs()=1 pushes(1) now(3)=0 now(4)=1 now(5)=0",
        "'s1 1 0;' stairs()=1 pushes(3) now(3)=1 now(4)=1 flips()=1 now(3)=1 now(4)=0",
        "'s1 5 0;s9 9 5;' stairs()=2 pushes(5) now(3)=1 now(4)=1", "'s1 5 0;s9 9 4;' stairs()=2 pushes(8) now(3)=1 now(4)=2");
    // VIGOUR stays 1 by each of nine FLIPS; by STIFF 2 and HIGH 1 on STEP 7 it has 1 on STEP 8, and RESTS.
    sentence(6, "RUN: FLIPS alone, till VIGOUR is 0: over all nine STEPS",
        "'l9;f1;d0;" + "s1 9 0;".repeat(9) + "' stairs()=12 pushes(1) now(3)=9 now(4)=9 now(5)=0",
        "'l9;f2;d0;" + "s2 9 0;".repeat(7) + "s1 9 0;s9 9 0;' stairs()=12 pushes(2) now(3)=8 now(4)=9 now(5)=0");
    sentence(6, "RUN: STEPS (bits) over which it SLIPS",
        "'l0;f1;d0;" + "s9 1 0;".repeat(9) + "' stairs()=12 pushes(1) now(3)=9 now(4)=1 now(5)=510",
        "'l0;f1;d0;" + "s9 1 0;".repeat(9) + "' stairs()=12 lifts(7) pushes(1) now(3)=9 now(5)=256",
        "'l0;f1;d0;" + "s9 1 0;".repeat(9) + "' stairs()=12 lifts(8) pushes(1) now(3)=9 now(5)=0",
        "'l0;f1;d0;s9 1 0;s9 9 0;' stairs()=5 pushes(1) now(5)=0", "'l0;f1;d0;s9 1 0;s9 9 0;' stairs()=5 pushes(2) now(5)=2");
  }

  private static void push() {
    // Of nine alike: by 21 it has 18 on STEP 1, slips (2 less by each) from 18, 16, 14 .. to 6 on STEP 7,
    // stands on STEP 8 with 4, and goes down; by 20 it stands on STEP 7 with 5, and rests on STEP 8 with 2.
    String two = "'s1 1 0;s1 1 0;' stairs()=2 ";
    sentence(12, "PUSH for a place (0 .. as many STEPS as there are)",
        "push(-1)=BAD push(0)=0 push(1)=BAD", two + "push(-1)=BAD push(0)=0 push(1)=3 push(2)=6 push(3)=BAD",
        two + "push(MIN)=BAD push(MAX)=BAD", "'" + NINE + "' stairs()=9 push(8)=19 push(9)=21 push(10)=BAD");
    sentence(12, "(0: not at all)",
        two + "pushes(2) push(0)=0 push(1)=1 pushes(1) push(0)=NONE push(1)=0", two + "lifts(1) push(1)=0 push(0)=NONE push(2)=3",
        two + "lifts(1) pushes(3) flips()=2 push(2)=0 push(1)=NONE push(0)=NONE");
    // v - 9 + 1 - 3, then 11 less by each of STEPS 1 to 4: by 60 it has 5 on STEP 5, by 59 it has 4; less
    // than STIFF, so it rests there unless it slips.
    String far = "'l0;f9;d3;s1 1 0;" + "s1 1 5;".repeat(4);
    sentence(12, "the least k (0 .. 60); NONE",
        far + "s1 3 0;' stairs()=9 push(6)=59", far + "s1 4 0;' stairs()=9 push(6)=60 push(5)=51",
        far + "s1 5 0;' stairs()=9 push(6)=NONE push(5)=51 pushes(1) push(6)=60");
  }

  private static void least() {
    // By 9 it has 1 on STEP 1, where 1 may stand, and needs 8 more; by 10 it slips to THE FLOOR.
    String ten = "'f9;d0;l0;s1 1 0;s9 1 0;' stairs()=5 ";
    sentence(6, "LEAST: PUSHED by 0 .. 9 ahead of each FLIP",
        ten + "now(6)=17 now(7)=9", ten + "pushes(1) now(6)=9 now(7)=9", ten + "pushes(2) now(6)=8 now(7)=8",
        ten + "pushes(9) now(6)=1 now(7)=1", ten + "pushes(10) now(6)=0 now(7)=0");
    sentence(6, "it goes down by each",
        "'s9 9 0;' stairs()=1 now(6)=3 now(7)=3 pushes(2) now(6)=1 now(7)=1 pushes(1) now(6)=0 now(7)=0",
        "'f9;d3;" + "s1 1 5;".repeat(9) + "' stairs()=11 now(6)=81 now(7)=9");
    // 3, 2, 1 and 4, 1, 1 and 5, 0, 1 come down, all by 6.
    sentence(6, "of several ways that with the least first one",
        "'f3;d0;l9;s1 9 0;s2 9 0;s9 9 0;' stairs()=6 now(6)=6 now(7)=3 pushes(1) now(6)=5 now(7)=2");
    sentence(6, "0 and 0 on THE FLOOR",
        "now(6)=0 now(7)=0", "'s1 1 0;' stairs()=1 now(6)=3 pushes(3) flips()=1 now(6)=0 now(7)=0");
  }

  private static void mat() {
    // By 3 it comes to STEP 1 with 3 + 4 - 3 - 1 less its MAT; 3 are needed there, and bring it to THE FLOOR.
    String two = "'s4 3 0;s5 2 2;' stairs()=2 pushes(3) ";
    sentence(13, "MAT for a place, n (0 .. 5)",
        two + "mat(0,0)=NONE mat(-1,0)=BAD mat(2,0)=1 mat(3,0)=BAD mat(MIN,0)=BAD mat(MAX,0)=BAD",
        two + "mat(1,-1)=BAD mat(1,0)=0 mat(1,1)=0 mat(1,4)=0 mat(1,5)=0 mat(1,6)=BAD mat(1,MIN)=BAD mat(1,MAX)=BAD",
        two + "mat(2,1)=NONE mat(2,5)=NONE lays(1,0)=2 mat(1,1)=1 mat(1,5)=1 mat(2,5)=0");
    sentence(13, "the lowest STEP on which a MAT of n, LAID NOW, makes RUN end there; NONE",
        "mat(0,0)=NONE mat(0,5)=NONE mat(1,0)=BAD", "'" + NINE + "' stairs()=9 mat(0,0)=0 mat(0,5)=0 mat(1,0)=NONE mat(9,0)=NONE mat(10,0)=BAD",
        // VIGOUR 1 all the way down: a MAT of 1 on a STEP makes it end there, the last one too.
        "'l9;f1;d0;" + "s1 9 0;".repeat(9) + "' stairs()=12 pushes(1) mat(0,1)=NONE mat(1,1)=1 mat(8,1)=8 mat(9,1)=0 mat(8,0)=NONE",
        "'l9;f1;d0;s1 9 5;s1 9 0;' stairs()=5 pushes(1) flips() flips()=2 mat(2,5)=0 mat(1,5)=NONE");
  }

  private static void seen() {
    String two = "'s1 1 0;s1 1 0;' stairs()=2 ";
    sentence(15, "put on a STEP",
        two + "sees(-1,1,0)=BAD sees(2,1,0)=BAD sees(MIN,1,0)=BAD sees(MAX,1,0)=BAD count(4)=0 sees(0,1,0)=1 sees(1,1,1)=2",
        "sees(0,1,0)=BAD count(4)=0", "'" + NINE + "' stairs()=9 sees(9,1,9)=BAD sees(8,1,9)=1");
    sentence(15, "with VIGOUR v (1 .. 60)",
        two + "sees(0,0,0)=BAD sees(0,-1,0)=BAD sees(0,MIN,0)=BAD sees(0,1,0)=1 sees(0,2,0)=2",
        two + "sees(0,61,2)=BAD sees(0,MAX,2)=BAD sees(0,60,2)=1 sees(0,59,2)=2");
    sentence(15, "came to rest at a place (0 .. as many STEPS as there are)",
        two + "sees(0,1,-1)=BAD sees(0,1,3)=BAD sees(0,1,MIN)=BAD sees(0,1,MAX)=BAD sees(0,1,0)=1 sees(0,1,1)=2 sees(0,1,2)=3",
        two + "sees(1,1,0)=1 ways(0)=0", "'" + NINE + "' stairs()=9 sees(0,1,10)=BAD sees(0,1,9)=1");
    sentence(15, "SEEN (6 at most); FULL",
        two + times(5, "sees(0,1,0)") + "count(4)=5 sees(0,1,0)=6 sees(0,1,0)=FULL sees(1,60,2)=FULL count(4)=6",
        two + times(6, "sees(0,1,0)") + "sees(0,9,0)=FULL ways(0)=32 forget()=6 sees(0,9,0)=1 ways(0)=0",
        // The sixth counts as the first does.
        two + times(5, "sees(0,1,0)") + "ways(0)=32 sees(0,1,1)=6 ways(0)=0");
    sentence(16, "Nothing is SEEN: how much was",
        "forget()=0", two + "forget()=0 sees(0,1,0) forget()=1 count(4)=0 forget()=0",
        two + times(6, "sees(0,1,1)") + "sees(0,1,1)=FULL ways(0)=3 forget()=6 count(4)=0 ways(0)=36 forget()=0");
  }

  private static void ways() {
    String one = "'s5 5 0;' stairs()=1 ";
    sentence(17, "twos of STIFF (1 .. 9)",
        one + "ways(0)=36 ways(1)=10", one + "sees(0,1,1) ways(0)=4 ways(1)=10", one + "sees(0,1,0) ways(0)=32 ways(1)=20",
        one + "sees(0,8,0) ways(0)=4 ways(1)=90", one + "sees(0,8,1) ways(0)=32 ways(1)=10",
        one + "sees(0,9,1) ways(0)=36 ways(1)=10", one + "sees(0,9,0) ways(0)=0 ways(1)=NONE");
    // By 1 only STIFF 1 goes down, to HIGH less DRAG: 0 rests on STEP 1, more comes to THE FLOOR.
    String high = "'l9;s%d 9 0;s9 9 0;' stairs()=3 ";
    sentence(17, "and DRAG (0 .. 3)",
        high.formatted(1) + "sees(0,1,2) ways(0)=1 ways(1)=10", high.formatted(1) + "sees(0,1,1) ways(0)=3 ways(1)=11",
        high.formatted(2) + "sees(0,1,1) ways(0)=2 ways(1)=12", high.formatted(3) + "sees(0,1,1) ways(0)=1 ways(1)=13",
        high.formatted(4) + "sees(0,1,1) ways(0)=0 ways(1)=NONE", high.formatted(4) + "sees(0,1,2) ways(0)=4 ways(1)=10");
    sentence(17, "how many; the first; NONE",
        "ways(0)=36 ways(1)=10", one + "sees(0,9,0) ways(0)=0 ways(1)=NONE forget()=1 ways(0)=36 ways(1)=10",
        one + "sees(0,4,0) sees(0,5,1) ways(0)=4 ways(1)=50 sees(0,5,0) ways(0)=0 ways(1)=NONE");
    // By 9 it has 18 less STIFF and DRAG on STEP 1; what LONG and 1 let stand there rests if it is less than
    // STIFF: 7, 8, 7, 6 by 83, 91, 92, 93.
    sentence(17, "an unknown COIL (LONG as told)",
        "'l8;f1;d0;s9 1 0;s1 1 0;' stairs()=5 sees(0,9,1) ways(0)=4 ways(1)=83",
        "'l7;f1;d0;s9 1 0;s1 1 0;' stairs()=5 sees(0,9,1) ways(0)=4 ways(1)=83",
        "'l6;f1;d0;s9 1 0;s1 1 0;' stairs()=5 sees(0,9,1) ways(0)=3 ways(1)=83",
        "'l5;f1;d0;s9 1 0;s1 1 0;' stairs()=5 sees(0,9,1) ways(0)=1 ways(1)=93",
        "'l4;f1;d0;s9 1 0;s1 1 0;' stairs()=5 sees(0,9,1) ways(0)=0 ways(1)=NONE");
  }

  private static void tries() {
    String one = "'s5 5 0;' stairs()=1 ";
    sentence(18, "TRY for a STEP",
        "next(0)=BAD next(-1)=BAD", one + "next(-1)=BAD next(0)=4 next(1)=BAD next(MIN)=BAD next(MAX)=BAD",
        "'" + "s5 5 0;".repeat(9) + "' stairs()=9 next(8)=4 next(9)=BAD");
    sentence(18, "NONE (one can be at most)",
        one + "sees(0,9,0) ways(0)=0 next(0)=NONE forget() next(0)=4",
        "'l9;s1 9 0;s9 9 0;' stairs()=3 sees(0,1,2) ways(0)=1 next(0)=NONE next(1)=NONE",
        // 12 and 13 are left: STEP 0 by 2 parts them (on STEP 1 with 1 and 0), STEP 1 never does.
        "'l9;s2 9 0;s9 9 0;' stairs()=3 sees(0,1,1) ways(0)=2 next(0)=2 next(1)=1");
    // STIFF 5 to 9, by four DRAGS each; by 6 it is 8 to 12, by 7 it is 12 to 8; by four of one STIFF all are alike.
    sentence(18, "of several the least",
        one + "sees(0,4,0) ways(0)=20 next(0)=6", one + "sees(0,4,0) sees(0,5,1) ways(0)=4 next(0)=1");
    sentence(18, "the VIGOUR (1 .. 60)",
        one + "sees(0,2,1) ways(0)=8 next(0)=1",
        "'l1;s3 3 2;s1 7 5;s3 3 5;s3 3 4;s3 1 3;s3 8 0;s2 8 4;s3 4 4;s3 1 1;' stairs()=10"
            + " sees(0,43,6) sees(0,60,8) ways(0)=3 ways(1)=23 next(0)=59",
        "'l2;s1 1 1;s1 8 3;s1 1 0;s1 3 2;s2 4 4;s3 5 5;s2 7 0;s1 1 1;' stairs()=9"
            + " sees(0,38,4) sees(0,42,4) ways(0)=3 ways(1)=73 next(0)=60",
        // 61 would part all three.
        "'l1;s3 4 3;s2 6 3;s2 7 3;s3 7 2;s2 9 5;s1 5 3;s3 6 4;s2 2 1;s1 2 0;' stairs()=10"
            + " sees(0,53,6) sees(0,40,4) ways(0)=3 ways(1)=73 next(0)=7");
  }

  private static void odds() {
    // By 3 it comes down just if the MAT on STEP 1 slips away.
    String two = "'s4 3 0;s5 2 2;' stairs()=2 pushes(3) ";
    sentence(14, "ODDS by x (0 .. 10)",
        two + "odds(-1,0)=BAD odds(-1,1)=BAD odds(11,0)=BAD odds(11,1)=BAD odds(MIN,0)=BAD odds(MAX,1)=BAD",
        two + "odds(0,0)=0 odds(0,1)=1 odds(1,0)=1 odds(1,1)=10 odds(9,0)=9 odds(9,1)=10 odds(10,0)=1 odds(10,1)=1");
    sentence(14, "upper (what = 0), lower number (1), in least terms",
        two + "odds(5,-1)=BAD odds(5,2)=BAD odds(5,MIN)=BAD odds(5,MAX)=BAD odds(5,0)=1 odds(5,1)=2",
        two + "odds(2,0)=1 odds(2,1)=5 odds(8,0)=4 odds(8,1)=5 odds(3,0)=3 odds(3,1)=10",
        // It never comes down, and it always does.
        two + "undo() odds(5,0)=0 odds(5,1)=1", two + "pushes(2) odds(0,0)=1 odds(0,1)=1 odds(7,0)=1 odds(7,1)=1");
    sentence(14, "each MAT above 0 slips away (is 0), for itself",
        two + "lays(1,1)=2 odds(3,0)=3 odds(3,1)=10", two + "lays(1,0)=2 odds(3,0)=1 odds(3,1)=1", two + "lays(0,5)=0 odds(3,0)=3 odds(3,1)=10",
        // VIGOUR 1 all the way down: all eight MATS below must slip away.
        "'l9;f1;d0;" + "s1 9 5;".repeat(9) + "' stairs()=12 pushes(1) odds(3,0)=6561 odds(3,1)=100000000"
            + " odds(9,0)=43046721 odds(9,1)=100000000 odds(5,0)=1 odds(5,1)=256 odds(10,0)=1 odds(0,0)=0 odds(0,1)=1",
        // By 2 one MAT of 1 may stay, whichever it is: x by x, and twice x by the rest.
        "'l9;f1;d0;s1 9 0;s1 9 1;s1 9 1;' stairs()=6 pushes(2) odds(5,0)=3 odds(5,1)=4 odds(1,0)=19 odds(1,1)=100");
    sentence(14, "that RUN ends on THE FLOOR",
        "odds(0,0)=1 odds(0,1)=1 odds(10,0)=1 odds(10,1)=1",
        "'s1 1 5;' stairs()=1 odds(10,0)=0 odds(10,1)=1 pushes(2) odds(10,0)=0 pushes(1) odds(0,0)=1 flips()=1 odds(4,0)=1 odds(4,1)=1");
  }

  // ---- Terms 4

  private static void kinds() {
    String nine = "'s9 8 5;s1 1 1;" + "s2 3 4;".repeat(7) + "' stairs()=9 ";
    sentence(19, "KINDS of COILS: 0 .. 5; NO: BAD",
        nine + "rate(-1,0)=NO rate(6,0)=NO rate(MIN,0)=NO rate(MAX,0)=NO trace()=0",
        nine + "rate(0,0)=9 rate(1,0)=17 rate(2,0)=-1 rate(3,0)=34 rate(4,0)=-1 rate(5,0)=9",
        nine + "rate(0,1)=1 rate(1,1)=2 rate(2,1)=-1 rate(3,1)=4 rate(4,1)=0 rate(5,1)=1");
    sentence(19, "RATE of a STEP; NO: BAD",
        nine + "rate(0,-1)=NO rate(0,9)=NO rate(0,MIN)=NO rate(5,MAX)=NO trace()=0 rate(0,8)=2", "rate(0,0)=NO rate(5,0)=NO trace()=0",
        nine + "rate(2,8)=-6 rate(4,8)=2");
    sentence(19, "where a number may be below 0: an answer that looks like BAD, STATE, FULL, NONE is none",
        "'s1 1 1;s2 1 2;s3 1 3;s1 1 5;' stairs()=4 rate(2,0)=-1 rate(2,1)=-2 rate(2,2)=-3 rate(2,3)=-9 trace()=404");
    sentence(19, "LEAD up, and VIGOUR",
        nine + times(5, "pushes(20)") + "rate(5,0)=108 rate(5,8)=101 lifts(1) rate(5,0)=9");
    sentence(19, "PAPER up less twice its MAT", nine + "rate(2,2)=-6 lays(2,0)=4 rate(2,2)=2 lays(2,5)=0 rate(2,2)=-8 rate(4,2)=-6");
    sentence(23, "THE TRACE, 0 at first: each once",
        "trace()=0", nine + "rate(0,0) trace()=1", nine + "rate(1,0) trace()=11", nine + "rate(2,0) trace()=101",
        nine + "rate(3,0) trace()=1011", nine + "rate(4,0) trace()=10101", nine + "rate(5,0) trace()=100001",
        nine + times(10, "rate(3,0)") + "trace()=10110 rate(6,0)=NO rate(0,9)=NO trace()=10110");
  }

  private static void images() {
    String two = "'s1 1 0;s1 1 3;' stairs()=2 ";
    sentence(20, "IMAGES 0, 1; BAD",
        two + "keep(-1)=BAD keep(2)=BAD keep(MIN)=BAD keep(MAX)=BAD back(0)=STATE back(1)=STATE", "keep(0)=0 keep(1)=0",
        two + "keep(0)=0 back(1)=STATE lifts(1) keep(1)=1 back(0)=0 back(1)=1",
        two + "pushes(3) lifts(1) pushes(3) flips()=2 keep(1)=2 lifts(0) back(1)=2 now(0)=2");
    sentence(20, "An IMAGE is kept: the latest one counts",
        two + "keep(0)=0 pushes(5) keep(0)=0 pushes(5) back(0)=0 now(1)=5 back(0)=0 now(1)=5 back(1)=STATE");
    sentence(21, "BAD; STATE: none was kept",
        "back(0)=STATE back(1)=STATE back(-1)=BAD back(2)=BAD", two + "back(-1)=BAD back(2)=BAD back(MIN)=BAD back(MAX)=BAD",
        two + "pushes(1) back(0)=STATE back(1)=STATE back(2)=BAD now(1)=1 now(8)=1", two + "keep(1)=0 back(0)=STATE back(1)=0");
    sentence(21, "All of that becomes as an IMAGE has it",
        two + "pushes(2) flips()=0 pushes(7) lays(1,5) keep(0)=0 lays(1,0) lays(0,4) pushes(1) flips() lifts(1)"
            + " back(0)=0 now(0)=0 now(1)=7 now(2)=1 step(0,2)=0 step(1,2)=5");
    sentence(21, "nothing can be UNDONE behind back()",
        two + "keep(0) " + times(11, "pushes(1)") + "now(8)=10 back(0)=0 now(8)=0 undo()=STATE now(1)=0 pushes(1) now(8)=1 undo()=0 undo()=STATE",
        two + "pushes(1) keep(0)=0 now(8)=1 back(0)=0 now(8)=0 undo()=STATE now(1)=1");
    sentence(21, "IMAGES keep NOW; nothing else",
        two + "keep(0) sees(0,1,0) rate(0,0) 'l1' back(0)=0 count(4)=1 trace()=1 count(5)=2",
        two + "pushes(4) keep(0) undo()=0 undo()=STATE back(0)=0 now(1)=4");
  }

  private static void readAnew() {
    String much = "'s5 4 3;s1 1 1;l1;f2;d3;' stairs()=5 pushes(9) lays(0,1) flips()=2 lifts(1) pushes(4) sees(0,1,0)"
        + " keep(0) keep(1) rate(0,0) now(0)=1 now(1)=4 now(2)=1 now(8)=5 ";
    String nothing = "now(0)=0 now(1)=0 now(2)=0 now(8)=0 undo()=STATE count(4)=0 back(0)=STATE back(1)=STATE forget()=0 ";
    sentence(4, "Read anew: as told, nothing SEEN, IMAGES are gone",
        much + "'s7 8 2;' stairs()=1 " + nothing + "count(0)=1 count(1)=4 count(2)=3 count(3)=1 step(0,0)=7 step(0,1)=8 step(0,2)=2 step(1,0)=BAD",
        much + "stairs()=0 " + nothing + "count(0)=0 count(1)=4 count(2)=3 count(3)=1 step(0,0)=BAD flips()=STATE pushes(1)=STATE",
        much + "'s5 4 3;s1 1 1;l1;f2;d3;' stairs()=5 " + nothing + "step(0,2)=3 ways(0)=36",
        "pushes(1)=STATE 's1 1 0;' stairs()=1 pushes(1)=1 stairs()=0 pushes(1)=STATE");
    // The document lists what goes, and THE TRACE is not in it.
    sentence(23, "Read anew: THE TRACE stays", much + "stairs()=0 trace()=1");
  }

  private static void whatNumbers() {
    String one = "'s7 8 2;' stairs()=1 sees(0,1,0) 'ab' ";
    sentence(5, "0 HIGH, 1 DEEP, 2 MAT. BAD",
        one + "step(0,-1)=BAD step(0,0)=7 step(0,1)=8 step(0,2)=2 step(0,3)=BAD step(0,MIN)=BAD step(0,MAX)=BAD",
        one + "step(-1,0)=BAD step(1,0)=BAD step(MIN,0)=BAD step(MAX,2)=BAD lays(0,5)=2 step(0,2)=5");
    sentence(6, "0 where it is .. 8 how many may be UNDONE. BAD",
        one + "now(-1)=BAD now(0)=0 now(8)=0 now(9)=BAD now(MIN)=BAD now(MAX)=BAD", "now(-1)=BAD now(9)=BAD");
    sentence(17, "how many (what = 0), the first (1). BAD",
        one + "ways(-1)=BAD ways(0)=32 ways(1)=20 ways(2)=BAD ways(MIN)=BAD ways(MAX)=BAD");
    sentence(22, "0 STEPS .. 5 letters of THE TEXT. BAD",
        one + "count(-1)=BAD count(0)=1 count(1)=4 count(2)=3 count(3)=1 count(4)=1 count(5)=2 count(6)=BAD count(MIN)=BAD count(MAX)=BAD");
  }

  private static void refusedInOrder() {
    sentence(2, "Refused, the first of these: BAD, FULL",
        "'" + " ".repeat(100) + "' type(-1)=BAD type(256)=BAD type(0)=FULL");
    sentence(8, "Refused, the first of these: BAD, STATE",
        "pushes(0)=BAD pushes(21)=BAD pushes(1)=STATE", "'s1 1 0;' stairs()=1 pushes(3) flips() pushes(0)=BAD pushes(21)=BAD pushes(20)=STATE");
    sentence(9, "Refused, the first of these: BAD, STATE (THE FLOOR is no STEP, also if it is there)",
        "lifts(0)=BAD", "'s1 1 0;' stairs()=1 pushes(3) flips()=1 lifts(1)=BAD");
    sentence(15, "Refused, the first of these: BAD, FULL",
        "'s1 1 0;' stairs()=1 " + times(6, "sees(0,1,0)") + "sees(1,1,0)=BAD sees(0,0,0)=BAD sees(0,61,0)=BAD sees(0,1,2)=BAD sees(0,1,0)=FULL");
    sentence(21, "Refused, the first of these: BAD, STATE", "back(2)=BAD back(-1)=BAD back(0)=STATE");
  }

  // ---- how runs are read and compared

  private static String times(int n, String calls) {
    return (calls + " ").repeat(n);
  }

  private static void sentence(int promise, String words, String... runs) {
    sentences++;
    for (String run : runs) new Run(promise, words, run).go();
  }

  private record Call(String name, int a, int b, int c) {
    long on(CoilStairs x) {
      switch (name) {
        case "type": return x.type(a);
        case "clear": return x.clear();
        case "stairs": return x.stairs();
        case "step": return x.step(a, b);
        case "now": return x.now(a);
        case "flips": return x.flips();
        case "pushes": return x.pushes(a);
        case "lifts": return x.lifts(a);
        case "lays": return x.lays(a, b);
        case "undo": return x.undo();
        case "push": return x.push(a);
        case "mat": return x.mat(a, b);
        case "odds": return x.odds(a, b);
        case "sees": return x.sees(a, b, c);
        case "forget": return x.forget();
        case "ways": return x.ways(a);
        case "next": return x.next(a);
        case "rate": return x.rate(a, b);
        case "keep": return x.keep(a);
        case "back": return x.back(a);
        case "count": return x.count(a);
        case "trace": return x.trace();
        default: throw new IllegalArgumentException("no call is named " + name);
      }
    }

    boolean onlyAsks() {
      return List.of("step", "now", "push", "mat", "odds", "ways", "next", "count", "trace").contains(name);
    }

    boolean isRefusedBy(long answer) {
      if (name.equals("rate")) return answer == CoilStairs.NO;
      return name.equals("stairs") ? answer <= -10 : answer < 0;
    }

    @Override public String toString() {
      return name + "(" + a + "," + b + "," + c + ")";
    }
  }

  /** One run of calls on a new object. */
  private static final class Run {
    private static final Pattern WORD = Pattern.compile("'([^']*)'|(\\w+)\\(([^)]*)\\)(?:=(\\S+))?|(\\S+)");

    final int promise;
    final String words;
    final String text;
    final CoilStairs x = new CoilStairs();
    final List<Call> done = new ArrayList<>();

    Run(int promise, String words, String text) {
      this.promise = promise;
      this.words = words;
      this.text = text;
    }

    void go() {
      Matcher m = WORD.matcher(text);
      while (m.find()) {
        if (m.group(5) != null) throw new IllegalArgumentException("what is " + m.group(5) + " in " + text);
        if (m.group(1) != null) letters(m.group(1));
        else call(read(m.group(2), m.group(3)), m.group(4));
      }
    }

    private void letters(String letters) {
      long had = x.count(5);
      done.add(new Call("count", 5, 0, 0));
      for (int i = 0; i < letters.length(); i++) {
        call(new Call("type", letters.charAt(i), 0, 0), String.valueOf(had + i + 1));
      }
    }

    private static Call read(String name, String arguments) {
      int[] n = new int[3];
      String[] told = arguments.isEmpty() ? new String[0] : arguments.split(",");
      for (int i = 0; i < told.length; i++) n[i] = (int) number(told[i]);
      return new Call(name, n[0], n[1], n[2]);
    }

    private static long number(String told) {
      switch (told) {
        case "BAD": return CoilStairs.BAD;
        case "STATE": return CoilStairs.STATE;
        case "FULL": return CoilStairs.FULL;
        case "NONE": return CoilStairs.NONE;
        case "NO": return CoilStairs.NO;
        case "MIN": return Integer.MIN_VALUE;
        case "MAX": return Integer.MAX_VALUE;
        default: return Long.parseLong(told);
      }
    }

    private void call(Call call, String due) {
      long got = call.on(x);
      if (due != null) {
        answers++;
        if (got != number(due)) fault(call + " answered " + got + ", due is " + due);
      }
      if (call.onlyAsks() || call.isRefusedBy(got)) changedNothing(call);
      done.add(call);
      if (done.size() > CALLS_PROMISED) fault("more calls than are promised");
    }

    private void fault(String what) {
      wrong++;
      String shown = text.length() > 300 ? text.substring(0, 300) + ".." : text;
      System.out.println("promise " + promise + ", \"" + words + "\": " + what + " behind " + done.size() + " calls of " + shown);
    }

    private void changedNothing(Call call) {
      twins++;
      CoilStairs without = new CoilStairs();
      CoilStairs with = new CoilStairs();
      for (Call before : done) {
        before.on(without);
        before.on(with);
      }
      call.on(with);
      Portrait a = new Portrait(without);
      Portrait b = new Portrait(with);
      if (!a.answers.equals(b.answers)) fault(call + " changed something: " + a.answers + " till then, " + b.answers + " now");
      if (done.size() + 1L + b.answers.size() > CALLS_PROMISED) fault("more calls for the twin than are promised");
    }
  }

  /** All that an object's calls can tell of it; the object is used up by it. */
  private static final class Portrait {
    final List<Long> answers = new ArrayList<>();
    final CoilStairs x;

    Portrait(CoilStairs x) {
      this.x = x;
      int steps = x.count(0);
      add(steps);
      for (int what = 1; what <= 5; what++) add(x.count(what));
      for (int s = 0; s < steps; s++) {
        add(x.step(s, 0));
        add(x.step(s, 1));
      }
      add(x.trace());
      add(x.ways(0));
      add(x.ways(1));
      for (int what = 3; what <= 7; what++) add(x.now(what));
      add(x.odds(3, 0));
      add(x.odds(3, 1));
      if (steps > 0) add(x.next(0));
      moment(steps);
      int left = x.now(8);
      add(left);
      for (; left > 0; left--) {
        add(x.undo());
        moment(steps);
      }
      for (int image = 0; image <= 1; image++) {
        add(x.back(image));
        moment(steps);
      }
      theText();
    }

    private void moment(int steps) {
      for (int what = 0; what <= 2; what++) add(x.now(what));
      for (int s = 0; s < steps; s++) add(x.step(s, 2));
    }

    /** Where its FAULT is; and, if it has none, what it tells. */
    private void theText() {
      add(x.stairs());
      int steps = x.count(0);
      add(steps);
      for (int what = 1; what <= 5; what++) add(x.count(what));
      for (int s = 0; s < steps; s++) {
        for (int what = 0; what <= 2; what++) add(x.step(s, what));
      }
      add(x.type('x'));
    }

    private void add(long answer) {
      answers.add(answer);
    }
  }
}

import java.math.BigInteger;

/** Each sentence under the document's "Terms", its edges first of all, with a test of its own. */
public final class EdgesOfTermsTest {
  private static final int BEYOND = Due.BEYOND;
  private static final int NONE = Due.NONE;
  private static final int STATE = Due.STATE;
  private static final int FULL = Due.FULL;
  private static final int KIND = Due.KIND;
  private static final int PARTED = Due.PARTED;
  private static final int MIN = Integer.MIN_VALUE;
  private static final int MAX = Integer.MAX_VALUE;
  private static final Doc DOC = Doc.terms();

  private EdgesOfTermsTest() {}

  public static void main(String[] args) {
    errors();
    orderOfErrors();
    nothingChanges();
    quotientsOfTheChild();
    quotientsOfTexts();
    cells();
    floors();
    holds();
    childAtFirst();
    childHeld();
    kinds();
    goings();
    nowAndLeft();
    atHand();
    nearest();
    tape();
    grammar();
    comparing();
    operands();
    noBlanks();
    open();
    ints();
    truth();
    faults();
    learns();
    learnsHeld();
    dares();
    ofAGoing();
    alongHolds();
    free();
    draws();
    lean();
    upright();
    paces();
    caught();
    strides();
    falls();
    strikes();
    left();
    days();
    ahead();
    ways();
    waysAsWithoutFalls();
    gaps();
    way();
    pad();
    stand();
    go();
    films();
    guess();
    bodies();
    bodiesParted();
    voicesAbove();
    trace();
    sheets();
    DOC.noneLeft();
    Due.end();
  }

  private static void due(String call, long got, long want) {
    Due.due(call, got, want);
  }

  private static FirstSteps still(int kind) {
    return Made.still(kind);
  }

  // ---- the text on ERRORS

  private static void errors() {
    DOC.says("ERRORS are answers below -1000000000: LOW is -1000000000; LOW - 1 BEYOND, LOW - 2 NONE, LOW - 3 STATE, "
        + "LOW - 4 FULL, LOW - 5 KIND, LOW - 6 PARTED (in longs, too).");
    FirstSteps x = new FirstSteps();
    due("BEYOND", x.is(14), -1000000001);
    due("NONE", x.nearest(), -1000000002);
    due("STATE", x.tenths(1), -1000000003);
    due("BEYOND, a long", x.ways(0, 0), -1000000001L);
    due("STATE, a long", x.ways(1, 0), -1000000003L);
    for (int i = 0; i < 8; i++) {
      x.hold(0, 0);
    }
    due("FULL", x.hold(0, 0), -1000000004);
    x.going(0, 1);
    due("KIND", x.as(0, 1), -1000000005);
    due("PARTED", x.voice(0, 3, 1), -1000000006);
    int[] told = {2, 1, 2, 1, 1, 1};
    for (int k = 1; k <= 6; k++) {
      due("told", x.told(k), told[k - 1]);
    }
  }

  private static void orderOfErrors() {
    DOC.says("Each act tells its ERRORS in the order in which they are asked;");
    FirstSteps x = Made.full();
    x.setGoing(0, 1, 0);
    x.sheet(2, 0, 0);
    due("hold, BEYOND ahead of FULL", x.hold(100, 0), BEYOND);
    due("hold, BEYOND ahead of FULL", x.hold(0, -1), BEYOND);
    due("hold, FULL", x.hold(0, 0), FULL);
    due("going, BEYOND ahead of FULL", x.going(700, 1), BEYOND);
    due("going, BEYOND ahead of FULL", x.going(0, 61), BEYOND);
    due("going, FULL", x.going(0, 60), FULL);
    due("as, BEYOND ahead of KIND", x.as(8, 1), BEYOND);
    due("as, BEYOND ahead of KIND", x.as(0, 7), BEYOND);
    due("as, KIND", x.as(0, 6), KIND);
    due("feed, BEYOND ahead of FULL", x.feed(0, 9), BEYOND);
    due("feed, BEYOND ahead of FULL", x.feed(0, 0), BEYOND);
    due("feed, FULL", x.feed(0, 1), FULL);
    due("voice, BEYOND ahead of PARTED", x.voice(0, 4, 1), BEYOND);
    due("voice, PARTED", x.voice(0, 3, 1), PARTED);
    due("sheet, BEYOND ahead of STATE", x.sheet(4, 8, -1), BEYOND);
    due("sheet, BEYOND ahead of STATE", x.sheet(0, 9, -1), BEYOND);
    due("sheet, STATE ahead of BEYOND of n", x.sheet(0, 8, -1), STATE);
    due("put, BEYOND ahead of NONE", x.put(4, 99, 0), BEYOND);
    due("put, NONE ahead of BEYOND", x.put(2, 99, 0), NONE);
    due("move, BEYOND ahead of NONE", x.move(2, 0, 4, 0, 0), BEYOND);
    due("move, NONE ahead of KIND and BEYOND", x.move(0, 0, 2, 0, -1), NONE);
    due("move, KIND ahead of BEYOND", x.move(0, 0, 1, 0, -1), KIND);
    due("days, BEYOND ahead of STATE", Made.old(9999).days(61), BEYOND);
    due("days, STATE", Made.old(9999).days(60), STATE);
    FirstSteps y = new FirstSteps();
    due("tenths, BEYOND ahead of STATE", y.tenths(201), BEYOND);
    due("ways, BEYOND ahead of STATE", y.ways(9, 0), BEYOND);
    due("ways, BEYOND ahead of STATE", y.ways(1, 2), BEYOND);
    due("go, BEYOND ahead of STATE", y.go(201), BEYOND);
    due("pad, BEYOND ahead of NONE", y.pad(201), BEYOND);
    due("told BEYOND", y.told(1), 5);
    due("told STATE, NONE", y.told(2) + y.told(3), 0);
  }

  private static void nothingChanges() {
    DOC.says("one that answers an ERROR changes nothing but what told() tells, or where told.");
    Twins.refused("floor", Made::rich, x -> x.floor(0, 0, 10), BEYOND);
    Twins.refused("hold", Made::rich, x -> x.hold(5, 100), BEYOND);
    Twins.refused("hold", Made::full, x -> x.hold(99, 99), FULL);
    Twins.refused("setHold", Made::rich, x -> x.setHold(0, 2, 2), BEYOND);
    Twins.refused("set", Made::rich, x -> x.set(2, 0), BEYOND);
    Twins.refused("nearest", Made::withoutHolds, FirstSteps::nearest, NONE);
    Twins.refused("going", Made::rich, x -> x.going(0, 61), BEYOND);
    Twins.refused("going", Made::full, x -> x.going(300, 60), FULL);
    Twins.refused("as", Made::rich, x -> x.as(0, 4), KIND);
    Twins.refused("setGoing", Made::rich, x -> x.setGoing(0, 0, 7), BEYOND);
    Twins.refused("feed", Made::rich, x -> x.feed(-1L, 9), BEYOND);
    Twins.refused("feed", Made::full, x -> x.feed(0x2b, 1), FULL);
    Twins.refused("text", Made::rich, x -> x.text(2), BEYOND);
    Twins.refused("untell", Made::rich, x -> x.untell(2), BEYOND);
    Twins.refused("tenths", Made::rich, x -> x.tenths(201), BEYOND);
    Twins.refused("tenths", Made::withoutGoings, x -> x.tenths(1), STATE);
    Twins.refused("days", Made::rich, x -> x.days(61), BEYOND);
    Twins.refused("days", () -> Made.old(9999), x -> x.days(1), STATE);
    Twins.refused("then", Made::rich, x -> x.then(201, 0), BEYOND);
    Twins.refused("ways", Made::rich, x -> x.ways(9, 0), BEYOND);
    Twins.refused("ways", Made::withoutGoings, x -> x.ways(1, 0), STATE);
    Twins.refused("pad", Made::withoutHolds, x -> x.pad(1), NONE);
    Twins.refused("stand", Made::rich, x -> x.stand(0, 61), BEYOND);
    Twins.refused("go", Made::withoutGoings, x -> x.go(1), STATE);
    Twins.refused("voice", Made::rich, x -> x.voice(0, 4, 1), BEYOND);
    Twins.refused("sheet", Made::rich, x -> x.sheet(0, 8, 25), BEYOND);
    Twins.refused("sheet", Made::rich, x -> x.sheet(0, 8, -1), STATE);
    Twins.refused("put", Made::rich, x -> x.put(0, 6, 1), BEYOND);
    Twins.refused("move", Made::rich, x -> x.move(0, 0, 1, 0, 1), KIND);
    Twins.refused("move", Made::rich, x -> x.move(0, 2, 3, 0, 4), BEYOND);
    Twins.refused("restore", Made::withoutImage, FirstSteps::restore, NONE);
    Twins.refused("tell", Made::full, x -> x.tell(7), FULL);
    Twins.refused("told", Made::rich, x -> x.told(7), BEYOND);
  }

  private static void quotientsOfTheChild() {
    DOC.says("Quotients are cut toward 0.");
    int[][] fifths = {{4, 4}, {5, 6}, {9, 10}, {-4, -4}, {-5, -6}, {-9, -10}, {-10, -12}};
    FirstSteps x = still(0);
    for (int[] f : fifths) {
      x.set(1, f[0]);
      due("the lean of " + f[0] + " and its fifth", x.then(1, 1), f[1]);
    }
    FirstSteps y = new FirstSteps();
    y.hold(0, 0);
    y.going(100, 1);
    y.going(400, 1);
    int[] thirds = {0, 0, 0, 1, 1, 1, 2, 2, 2, 3};
    for (int sway = 0; sway <= 9; sway++) {
      y.set(3, sway);
      due("a third of the sway " + sway, y.goingIs(0, 3), thirds[sway]);
    }
    y.set(3, 0);
    int[][] parts = {{0, 0}, {24, 0}, {25, 1}, {49, 1}, {50, 2}, {74, 2}, {75, 3}, {99, 3}};
    for (int[] p : parts) {
      y.setGoing(1, 1, p[0]);
      due("m " + p[0] + " by 25", y.goingIs(1, 3), p[1]);
    }
    int[][] weeks = {{0, 10}, {3, 10}, {4, 11}, {7, 11}, {8, 12}, {59, 24}, {60, 25}};
    for (int[] w : weeks) {
      y.set(5, w[0]);
      due("weeks " + w[0] + " by 4", y.goingIs(1, 6), w[1]);
    }
    y.set(5, 0);
    int[][] learned = {{99, 10}, {100, 11}, {199, 11}, {200, 12}, {9999, 109}};
    for (int[] l : learned) {
      y.set(6, l[0]);
      due("learned " + l[0] + " by 100", y.goingIs(1, 6), l[1]);
    }
    y.set(5, 3);
    y.set(6, 99);
    due("weeks and learned, each cut", y.goingIs(1, 6), 10);
    FirstSteps z = Made.withHolds(0, 9);
    z.set(5, 1);
    z.set(6, 99);
    due("so to dare a gap", z.gaps(1), 0);
  }

  private static void quotientsOfTexts() {
    DOC.says("Quotients are cut toward 0.");
    FirstSteps x = still(0);
    String[] texts = {"7/2", "(0-7)/2+9", "7/(0-2)+9", "(0-7)/(0-2)", "(0-1)/2+9", "1/2+9"};
    int[] worths = {3, 6, 6, 3, 9, 9};
    for (int i = 0; i < texts.length; i++) {
      due(texts[i], worth(x, texts[i]), worths[i]);
    }
    FirstSteps y = new FirstSteps();
    y.going(10, 1);
    y.going(300, 1);
    due("-19 by 10", y.voice(0, 3, -19), -1);
    due("19 by 10", y.voice(0, 3, 19), 1);
    due("-9 by 10", y.voice(0, 3, -9), 0);
    // FREE falls: steps of the half, the leans being one more: (x / 2 + 1) * 2
    due("a half of -7", y.voice(1, 2, -7), -4);
    due("a half of -1", y.voice(1, 2, -1), 2);
    due("a half of 7", y.voice(1, 2, 7), 8);
  }

  // ---- 1, the room and the child

  private static void cells() {
    DOC.says("THE ROOM has CELLS 0 .. 99 in a row;");
    FirstSteps x = still(3);
    due("the last", x.set(0, 99), 0);
    due("none behind it", x.set(0, 100), BEYOND);
    due("none ahead of 0", x.set(0, -1), BEYOND);
    due("it is where it was", x.is(0), 99);
    due("a hold in the last", x.hold(99, 0), 0);
    due("a hold in the first", x.hold(0, 0), 1);
    due("no hold behind", x.hold(100, 0), BEYOND);
    due("no hold ahead", x.hold(-1, 0), BEYOND);
    due("two holds", x.count(0), 2);
    due("the gap between them", x.gaps(2), 99);
    due("none is gone to behind the last", x.then(200, 0), 99);
  }

  private static void floors() {
    DOC.says("each ten of them (0 .. 9, 10 .. 19, ..) are a FLOOR with SLIP (0 .. 9) and SLOPE (-9 .. 9; "
        + "above 0: it leans forward), all 0 at first.");
    for (int floor = 0; floor < 10; floor++) {
      FirstSteps x = still(3);
      due("slip at first", x.floor(floor, 0, 9), 0);
      due("slope at first", x.floor(floor, 1, 9), 0);
      for (int cell = Math.max(0, 10 * floor - 1); cell <= Math.min(99, 10 * floor + 10); cell++) {
        boolean on = cell / 10 == floor;
        x.set(0, cell);
        x.set(1, 0);
        due("slope in cell " + cell, x.then(1, 1), on ? 9 : 0);
        // 20 is 24, 28 and 33 without a slope, 33, 48 and 66 with it; caught by 10, or not at all.
        x.set(1, 20);
        due("slip in cell " + cell, x.then(3, 1), on ? 66 : 23);
      }
      due("a slope backward", x.floor(floor, 1, -9), 9);
      x.set(0, 10 * floor);
      x.set(1, 0);
      due("leans backward", x.then(1, 1), -9);
      due("slope -9 was", x.floor(floor, 1, -10), BEYOND);
      due("slope 10", x.floor(floor, 1, 10), BEYOND);
      due("slip 10", x.floor(floor, 0, 10), BEYOND);
      due("slip -1", x.floor(floor, 0, -1), BEYOND);
      due("slope stays", x.floor(floor, 1, 0), -9);
      due("slip stays", x.floor(floor, 0, 0), 9);
    }
    due("no floor ahead of 0", new FirstSteps().floor(-1, 0, 0), BEYOND);
    due("no floor behind 9", new FirstSteps().floor(10, 0, 0), BEYOND);
  }

  private static void holds() {
    DOC.says("HOLDS 0, 1, .. (at most 8) each stand in a CELL (others may stand there, too), are HARD (0 .. 99), "
        + "PADDED (1) or not (0; at first).");
    FirstSteps x = new FirstSteps();
    for (int i = 0; i < 8; i++) {
      due("in one cell", x.hold(50, i % 2 == 0 ? 0 : 99), i);
      due("hard", x.holdIs(i, 1), i % 2 == 0 ? 0 : 99);
      due("not padded", x.holdIs(i, 2), 0);
    }
    due("a ninth", x.hold(50, 0), FULL);
    due("eight", x.count(0), 8);
    due("the last as it was", x.holdIs(7, 1), 99);
    due("no gap", x.gaps(0), 0);
    due("padded", x.setHold(7, 2, 1), 0);
    due("padded alone", x.holdIs(6, 2), 0);
    due("padded", x.setHold(7, 2, 0), 1);
    due("too hard", x.setHold(7, 1, 100), BEYOND);
    due("not hard enough", x.setHold(7, 1, -1), BEYOND);
    due("padded twice", x.setHold(7, 2, 2), BEYOND);
    due("hard as it was", x.holdIs(7, 1), 99);
    due("to the others", x.setHold(6, 0, 51), 50);
    due("back to them", x.setHold(6, 0, 50), 51);
  }

  private static void childAtFirst() {
    DOC.says("THE CHILD is in a CELL (0 at first), has LEAN (-99 .. 99; 0), REACH (1 .. 30; 8), SWAY (0 .. 9; 4), "
        + "STRENGTH (0 .. 50; 10), WEEKS of walking (0 .. 60; 0), LEARNED (0 .. 9999; 0), FALLS, STEPS, BUMPS, "
        + "YARDS (CELLS gone), all 0 (held at 999999).");
    int[] first = {0, 0, 8, 4, 10, 0, 0, 0, 0, 0, 0};
    int[] least = {0, -99, 1, 0, 0, 0, 0};
    int[] most = {99, 99, 30, 9, 50, 60, 9999};
    FirstSteps x = new FirstSteps();
    for (int what = 0; what < 11; what++) {
      due("is " + what, x.is(what), first[what]);
    }
    for (int what = 0; what < 7; what++) {
      due("the least", x.set(what, least[what]), first[what]);
      due("below it", x.set(what, least[what] - 1), BEYOND);
      due("far below it", x.set(what, MIN), BEYOND);
      due("as it was", x.is(what), least[what]);
      due("the most", x.set(what, most[what]), least[what]);
      due("above it", x.set(what, most[what] + 1), BEYOND);
      due("far above it", x.set(what, MAX), BEYOND);
      due("as it was", x.is(what), most[what]);
    }
    due("told", x.told(1), 28);
    for (int what = 7; what < 11; what++) {
      due("is " + what, x.is(what), 0);
      due("isn't set", x.set(what, 5), BEYOND);
    }
  }

  /** SAT on a slope of 9 it leans 9, 19, 31, 46, 64, 85, and falls in each seventh TENTH. */
  private static FirstSteps falling(int hard) {
    FirstSteps x = still(6);
    x.floor(0, 1, 9);
    x.hold(0, hard);
    return x;
  }

  private static void childHeld() {
    DOC.says("all 0 (held at 999999).");
    FirstSteps x = falling(97);
    for (int i = 0; i < 360; i++) {
      x.tenths(200);
    }
    x.tenths(163);
    due("falls", x.is(7), 10309);
    due("bumps", x.is(9), 999973);
    due("ahead, as many falls more as there are", x.then(7, 7), 10310);
    due("ahead, bumps held", x.then(7, 9), 999999);
    due("held there", x.then(200, 9), 999999);
    x.tenths(7);
    due("bumps held", x.is(9), 999999);
    x.tenths(7);
    due("bumps held still", x.is(9), 999999);
    due("falls go on", x.is(7), 10311);
    FirstSteps y = falling(0);
    y.set(1, 99);
    int[][] learned = {{9993, 9998}, {9994, 9999}, {9995, 9999}, {9999, 9999}};
    for (int[] l : learned) {
      y.set(6, l[0]);
      due("learned from " + l[0], y.then(1, 6), l[1]);
    }
  }

  private static void kinds() {
    DOC.says("GOINGS 0, 1, .. (at most 8), of KINDS: 0 GOING, 1 HELD under GOING, 2 GAPPED under HELD, 3 FREE under "
        + "GOING, 4 CARRYING under FREE, 5 SLOPED under FREE, 6 SAT under GOING;");
    String[] under = {"0", "01", "012", "03", "034", "035", "06"};
    FirstSteps x = new FirstSteps();
    for (int kind = 0; kind < 7; kind++) {
      due("number", x.going(100 * kind + 20 + kind, 1), kind);
    }
    for (int kind = 0; kind < 7; kind++) {
      for (int as = 0; as < 7; as++) {
        due(kind + " as " + as, x.as(kind, as), under[kind].indexOf('0' + as) >= 0 ? 20 + kind : KIND);
      }
    }
    due("an eighth", x.going(699, 60), 7);
    due("a ninth", x.going(699, 60), FULL);
    due("a kind above", x.going(700, 60), BEYOND);
    due("a kind below", x.going(-1, 60), BEYOND);
    due("eight", x.count(1), 8);
    due("the last as it was", x.goingIs(7, 0), 6);
    for (int kind = 0; kind < 7; kind++) {
      x.setGoing(7, 0, kind);
      due("of another kind", x.as(7, kind), 99);
    }
  }

  private static void goings() {
    DOC.says("each with a number m (0 .. 99) and for so many TENTHS (1 .. 60).");
    FirstSteps x = new FirstSteps();
    due("m 0", x.going(300, 1), 0);
    due("m 99", x.going(399, 60), 1);
    due("m", x.goingIs(0, 1), 0);
    due("m", x.goingIs(1, 1), 99);
    due("kind", x.goingIs(0, 0), 3);
    due("kind", x.goingIs(1, 0), 3);
    due("tenths", x.goingIs(0, 2), 1);
    due("tenths", x.goingIs(1, 2), 60);
    due("no tenths", x.going(300, 0), BEYOND);
    due("too many", x.going(300, 61), BEYOND);
    due("two", x.count(1), 2);
    due("m above", x.setGoing(0, 1, 100), BEYOND);
    due("m below", x.setGoing(0, 1, -1), BEYOND);
    due("m as it was", x.setGoing(0, 1, 99), 0);
  }

  private static void nowAndLeft() {
    DOC.says("THE CHILD does them by numbers, one behind the other, and 0 again;");
    FirstSteps x = new FirstSteps();
    x.set(3, 0);
    for (int i = 0; i < 8; i++) {
      x.going(600, 1 + i % 2);
    }
    int[] nows = {0, 1, 1, 2, 3, 3, 4, 5, 5, 6, 7, 7, 0, 1, 1, 2};
    for (int n = 0; n < nows.length; n++) {
      due("now behind " + n, x.then(n, 11), nows[n]);
    }
    FirstSteps one = new FirstSteps();
    one.going(600, 2);
    for (int n = 0; n < 6; n++) {
      due("one alone", one.then(n, 11), 0);
      due("left", one.then(n, 12), 2 - n % 2);
    }
    DOC.says("NOW is the one it does, LEFT the TENTHS that are left of it (GOING 0 with all its TENTHS as that comes).");
    FirstSteps y = new FirstSteps();
    due("now without", y.is(11), 0);
    due("left without", y.is(12), 0);
    y.going(600, 60);
    due("now", y.is(11), 0);
    due("left", y.is(12), 60);
    y.tenths(59);
    due("left", y.is(12), 1);
    y.going(600, 3);
    due("left as it was", y.is(12), 1);
    y.tenths(1);
    due("the next, with all its tenths", 100 * y.is(11) + y.is(12), 103);
    y.tenths(2);
    due("the last tenth", 100 * y.is(11) + y.is(12), 101);
    y.tenths(1);
    due("0 again, with all its tenths", 100 * y.is(11) + y.is(12), 60);
  }

  private static void atHand() {
    DOC.says("A HOLD is AT HAND, if its CELL is REACH or less from THE CHILD's, on either side.");
    FirstSteps x = Made.withHolds(50);
    x.going(100, 60);
    x.set(3, 9);
    int[] reaches = {1, 8, 30};
    for (int reach : reaches) {
      x.set(2, reach);
      int[] off = {0, 1 - reach, reach - 1, -reach, reach, -reach - 1, reach + 1};
      for (int o : off) {
        int hand = Math.abs(o) <= reach ? 1 : 0;
        x.set(0, 50 + o);
        due("reach " + reach + ", off " + o, x.holdIs(0, 3), hand);
        due("and goes so", x.goingIs(0, 5), 4 * hand);
      }
    }
    FirstSteps y = new FirstSteps();
    y.going(100, 60);
    due("without holds", y.goingIs(0, 5), 0);
  }

  private static void nearest() {
    DOC.says("NEAREST: the HOLD with the least distance; of several the least.");
    FirstSteps x = new FirstSteps();
    due("none", x.nearest(), NONE);
    x.hold(99, 5);
    due("far away", x.nearest(), 0);
    x.hold(60, 6);
    x.hold(40, 7);
    x.hold(40, 8);
    x.set(0, 50);
    due("of several on both sides", x.nearest(), 1);
    x.set(0, 49);
    due("of several in one cell", x.nearest(), 2);
    x.set(0, 40);
    due("where it is", x.nearest(), 2);
    x.set(0, 79);
    due("nearer", x.nearest(), 1);
    x.set(0, 80);
    due("nearer to the last", x.nearest(), 0);
    x.setHold(0, 0, 41);
    x.setHold(1, 0, 42);
    x.set(0, 0);
    due("set elsewhere", x.nearest(), 2);
    x.setHold(1, 0, 40);
    due("set into their cell", x.nearest(), 1);
  }

  // ---- 2, texts

  /** What a TEXT of LEARNS gives at a fall; its FAULT if it has one. */
  private static long worth(FirstSteps x, String text) {
    int answer = Made.text(x, 0, text);
    if (answer != 1) {
      return answer;
    }
    x.set(1, 99);
    x.set(6, 0);
    return x.then(1, 6);
  }

  private static long daring(String text) {
    FirstSteps x = Made.withHolds(10, 20);
    int answer = Made.text(x, 1, text);
    return answer == 1 ? x.gaps(1) : answer;
  }

  private static void tape() {
    DOC.says("TEXTS are read from THE TAPE (bytes, at most 60):");
    FirstSteps x = still(0);
    String ones = "1+1+1+1+1+1+1+1+1+1+1+1+1+1+1+1+1+1+1+1+1+1+1+1+1+1+1+1+1+";
    Made.feed(x, ones + "1");
    due("59 bytes", x.count(2), 59);
    due("two more", x.feed(0x3131, 2), FULL);
    due("59 still", x.count(2), 59);
    due("one more", x.feed('7', 1), 60);
    due("none more", x.feed('1', 1), FULL);
    due("60", x.count(2), 60);
    due("all of them are read", x.text(0), 1);
    x.set(1, 99);
    due("29 and 17", x.then(1, 6), 46);
    due("an empty tape", x.text(0), -10);
    for (int i = 0; i < 60; i++) {
      x.feed(i == 59 ? '!' : ones.charAt(i % 58), 1);
    }
    due("a fault at the last", x.text(0), -69);
    Made.feed(x, ones + "1+");
    due("too early behind all", x.text(0), -70);
    due("the one ahead stays", x.then(1, 6), 46);
  }

  private static void grammar() {
    FirstSteps x = still(0);
    DOC.says("T: A { | A }. A: B { & B }.");
    String[] texts = {"7", "0|0", "0|3", "0|0|0|4", "3&4", "3&4&0", "1|0&0", "0&0|1", "|1", "&1", "1|", "1&", "1||1",
        "1&&1", "1|&1"};
    int[] dues = {7, 0, 1, 1, 1, 0, 1, 1, -10, -10, -12, -12, -12, -12, -12};
    worths(x, texts, dues);
    DOC.says("S: P { + P, - P }. P: Q { * Q, / Q, % Q }.");
    texts = new String[] {"8-2-3", "8-2+3", "2+3*4", "2*3+4", "64/4/2", "64/4*2", "17%10%4", "9-8/2", "3*7%4", "-1",
        "+1", "*1", "/1", "%1", "1-", "1*", "1/", "1%", "1+-1", "2*/3"};
    dues = new int[] {3, 9, 14, 10, 8, 32, 3, 5, 1, -10, -10, -10, -10, -10, -12, -12, -12, -12, -12, -12};
    worths(x, texts, dues);
  }

  private static void worths(FirstSteps x, String[] texts, int[] dues) {
    due("as many", texts.length, dues.length);
    for (int i = 0; i < texts.length; i++) {
      due(texts[i], worth(x, texts[i]), dues[i]);
    }
  }

  private static void comparing() {
    DOC.says("B: S, or S < S, S = S, S > S.");
    String[] texts = {"1<2", "2<2", "2=2", "1=2", "2>1", "2>2", "1+1=2", "2=1+1", "1<2&3>2", "1<2<3", "1=1=1", "1>0>0",
        "1<2=1", "1<2+3>1", "(1<2)<2", "2>(1<2)", "<1", "1<", "1<=2", "1==1", "1><2", "1<2|1=2|2>3"};
    int[] dues = {1, 0, 1, 0, 1, 0, 1, 1, 1, -13, -13, -13, -13, -15, 1, 1, -10, -12, -12, -12, -12, 1};
    worths(still(0), texts, dues);
  }

  private static void operands() {
    DOC.says("Q: a NUMBER of 1 to 4 digits, a NAME, ! Q, ( T ).");
    String[] texts = {"0", "9", "0000", "0999", "00000", "12345", "1+00000", "12345678", "f", "ff", "1f", "f1", "!1", "!0", "!!7",
        "!f", "1!", "f!", "!", "(7)", "((7))", "()", "(1", "1)", "(1))", "(1+2)*3", "!(1&0)", "!(1)", "7(1)", "(1)7",
        "(1)(1)", "(1)f", "F", "."};
    int[] dues = {0, 9, 0, 999, -14, -14, -16, -14, 1, -11, -11, -11, 0, 1, 1,
        0, -11, -11, -11, 7, 7, -11, -12, -11, -13, 9, 1, 0, -11, -13,
        -13, -13, -10, -10};
    worths(still(0), texts, dues);
  }

  private static void noBlanks() {
    DOC.says("No blanks.");
    String[] texts = {" ", " 1", "1 ", "1 +1", "1+ 1", "( 1)", "! 1", "1\t", "1\n", "1\u0000", "\u00a0"};
    int[] dues = {-10, -10, -11, -11, -12, -11, -11, -11, -11, -11, -10};
    worths(still(0), texts, dues);
  }

  private static void open() {
    DOC.says("At most 5 of ! and ( are open at once.");
    String[] texts = {"(((((7)))))", "((((((7))))))", "!!!!!7", "!!!!!!7", "!(!(!7))", "!(!(!(7)))", "(((((7))))+(2))",
        "(((((7)+(2)))))", "((((!7))))", "((((!!7))))", "((((!7+!0))))", "!!!!!1+!!!!!1", "(((((1)))))*(((((9)))))",
        "(((((1)))))*((((((9))))))", "!(((((1)))))", "((((!(1)))))", "!!!!!f+!!!!!!f", "!1+!1+!1+!1+!1+!1+!1+8"};
    int[] dues = {7, -15, 0, -15, 0, -15, 9,
        9, 0, -15, 1, 0, 9,
        -27, -15, -15, -22, 8};
    worths(still(0), texts, dues);
  }

  private static void ints() {
    DOC.says("Ints that wrap; / cut, % the rest that it leaves, both by 0 are 0;");
    // 2 to the 31st wraps to the least int
    String least = "1024*2048*1024";
    String[] texts = {least + "<0", least + "-1>0", least + "=0-" + least, least + "/(0-1)<0", least + "%(0-1)",
        "9999*9999*22<0", least + "+" + least, "7/0", "0/0", "7%0", "0%0", "7/0+3", "7%0+3", "(0-7)/0", "7%4", "(0-7)%4+9",
        "7%(0-4)", "(0-7)%(0-4)+9", "8%4", "3%7", "7/4*4+7%4", "5/(3-3)", least + "/0", least + "%0"};
    int[] dues = {1, 1, 1, 1, 0,
        1, 0, 0, 0, 0, 0, 3, 3, 0, 3, 6,
        3, 6, 0, 3, 7, 0, 0, 0};
    worths(still(0), texts, dues);
  }

  private static void truth() {
    DOC.says("| & < = > ! are 1 or 0, what is not 0 being true; all is worked out.");
    String[] texts = {"7|0", "0|7", "7|7", "0|0", "7&9", "7&0", "0&7", "0&0", "(0-7)|0", "(0-7)&(0-9)", "!7", "!(0-7)",
        "!0", "(7>3)*5", "(7=7)*5", "(3<7)*5", "(3<3)*5", "(8&8)*5", "(8|0)*5", "!0*5", "2|1/0", "0&1%0", "0&0|1", "1|0&0"};
    int[] dues = {1, 1, 1, 0, 1, 0, 0, 0, 1, 1, 0, 0,
        1, 5, 5, 5, 0, 5, 5, 5, 1, 0, 1, 1};
    worths(still(0), texts, dues);
  }

  private static void faults() {
    DOC.says("FAULT: the place of the first byte with which no TEXT goes on; how many there are, if it ends too early.");
    String[] texts = {"", "1+", "(", "!", "(1+2", "1<", "12345", "1+2)", "x", "1x", "1+x", "1<2<3", "((((((", "1+2+\u00e9",
        "f+(s*", "f+(s*w"};
    int[] faults = {0, 2, 1, 1, 4, 2, 4, 3, 0, 1, 2, 3, 5, 4,
        5, 6};
    FirstSteps x = still(0);
    worth(x, "77");
    for (int i = 0; i < texts.length; i++) {
      Made.feed(x, texts[i]);
      due("fault of " + texts[i], x.text(0), -10 - faults[i]);
      due("the tape is empty", x.count(2), 0);
      x.set(1, 99);
      due("the one ahead stays", x.then(1, 6), 77);
    }
    for (int k = 1; k <= 6; k++) {
      due("no error", x.told(k), 0);
    }
  }

  private static void learns() {
    DOC.says("USES: 0 LEARNS at a FALL: NAMES f FALLS (that one counted), s STEPS, w WEEKS, l LEARNED, h how HARD it "
        + "struck;");
    FirstSteps x = still(3);
    x.hold(0, 60);
    due("f of the first", worth(x, "f"), 1);
    x.tenths(1);
    due("f of the second", worth(x, "f"), 2);
    due("s none", worth(x, "s"), 0);
    x.set(1, 0);
    x.tenths(2);
    due("s one", worth(x, "s"), 1);
    x.set(5, 60);
    due("w", worth(x, "w"), 60);
    due("h", worth(x, "h"), 60);
    x.setHold(0, 2, 1);
    due("h padded", worth(x, "h"), 0);
    x.setHold(0, 2, 0);
    x.set(0, 9);
    due("h not at hand", worth(x, "h"), 0);
    due("l 0", worth(x, "l"), 0);
    Made.text(x, 0, "l");
    x.set(6, 400);
    due("l, that of now not counted", x.then(1, 6), 800);
    String[] texts = {"g", "r", "d", "k", "x", "m"};
    for (String text : texts) {
      due("no name " + text, worth(x, text), -10);
    }
  }

  private static void learnsHeld() {
    DOC.says("held within 0 .. 999;");
    String[] texts = {"0-1", "0", "1", "998", "999", "1000", "9999", "9999*9999*21", "9999*9999*22"};
    int[] dues = {0, 0, 1, 998, 999, 999, 999, 999, 0};
    worths(still(0), texts, dues);
    DOC.says("without a TEXT 5 - h/20.");
    int[][] hards = {{0, 5}, {19, 5}, {20, 4}, {39, 4}, {40, 3}, {59, 3}, {60, 2}, {79, 2}, {80, 1}, {99, 1}};
    FirstSteps x = falling(0);
    x.set(1, 99);
    for (int[] h : hards) {
      x.setHold(0, 1, h[0]);
      due("hard " + h[0], x.then(1, 6), h[1]);
      x.setHold(0, 2, 1);
      due("padded", x.then(1, 6), 5);
      x.setHold(0, 2, 0);
    }
    x.setHold(0, 1, 99);
    x.set(2, 1);
    x.setHold(0, 0, 2);
    due("not at hand", x.then(1, 6), 5);
  }

  private static void dares() {
    DOC.says("1 DARES a gap: g how wide, r REACH, w WEEKS, l LEARNED; true if it isn't 0;");
    String[] texts = {"0", "1", "2", "0-1", "g", "g-10", "g=10", "g=9", "r", "r=8", "r-8", "w", "w=0", "l", "l=0",
        "9999*9999*22", "1024*2048*2048", "f", "s", "h", "k"};
    int[] dues = {0, 1, 1, 1, 1, 0, 1, 0, 1, 1, 0, 0, 1, 0, 1, 1, 0, -10, -10, -10, -10};
    for (int i = 0; i < texts.length; i++) {
      due(texts[i], daring(texts[i]), dues[i]);
    }
    FirstSteps x = Made.withHolds(10, 20);
    x.set(2, 30);
    x.set(5, 60);
    x.set(6, 9999);
    due("r, w, l", Made.text(x, 1, "r=30&w=60&l=9999"), 1);
    due("dared", x.gaps(1), 1);
    DOC.says("without g < r + w/2 + l/100 + 1.");
    int[][] widths = {{8, 0, 0, 8}, {1, 0, 0, 1}, {30, 0, 0, 30}, {8, 1, 0, 8}, {8, 2, 0, 9}, {8, 60, 0, 38}, {8, 0, 99, 8},
        {8, 0, 100, 9}, {8, 3, 250, 11}};
    for (int[] w : widths) {
      FirstSteps y = Made.withHolds(0, w[3]);
      y.set(2, w[0]);
      y.set(5, w[1]);
      y.set(6, w[2]);
      due("as wide as dared", y.gaps(1), 1);
      y.setHold(1, 0, w[3] + 1);
      due("one wider", y.gaps(1), 0);
      due("the widest", y.gaps(2), w[3] + 1);
    }
  }

  // ---- 3, goings, tenths, days

  private static void is(FirstSteps x, int going, int sways, int stride, int pace, int grip) {
    due("sways of " + going, x.goingIs(going, 3), sways);
    due("stride of " + going, x.goingIs(going, 4), stride);
    due("pace of " + going, x.goingIs(going, 5), pace);
    due("catch of " + going, x.goingIs(going, 6), grip);
  }

  /** GOINGS of all KINDS, by their numbers, with an m of 99. */
  private static FirstSteps ofAll() {
    FirstSteps x = new FirstSteps();
    for (int kind = 0; kind < 7; kind++) {
      x.going(100 * kind + 99, 60);
    }
    return x;
  }

  private static void ofAGoing() {
    DOC.says("Of a GOING: SWAYS (held within 0 .. 9), STRIDE, PACE (a STEP each so many TENTHS; 0: none), CATCH.");
    FirstSteps x = ofAll();
    int[][] sways = {{0, 3}, {5, 8}, {6, 9}, {7, 9}, {9, 9}};
    for (int[] s : sways) {
      x.set(3, s[0]);
      due("carrying 99, sway " + s[0], x.goingIs(4, 3), s[1]);
      due("free", x.goingIs(3, 3), s[0]);
    }
    DOC.says("GOING: SWAY; 0; 0; STRENGTH and WEEKS by 4 and LEARNED by 100, together.");
    x.set(3, 9);
    x.set(4, 0);
    is(x, 0, 9, 0, 0, 0);
    x.set(4, 50);
    x.set(5, 60);
    x.set(6, 9999);
    is(x, 0, 9, 0, 0, 164);
    DOC.says("SAT: 0; 0; 0; as GOING.");
    is(x, 6, 0, 0, 0, 164);
    x.set(3, 0);
    is(x, 6, 0, 0, 0, 164);
    x.hold(0, 9);
    is(x, 0, 0, 0, 0, 164);
    is(x, 6, 0, 0, 0, 164);
  }

  private static void alongHolds() {
    DOC.says("HELD, with a HOLD AT HAND: SWAY by 3; 1; 4; that of a GOING and 20 more; without: as GOING.");
    FirstSteps x = ofAll();
    x.set(3, 8);
    is(x, 1, 8, 0, 0, 10);
    x.hold(9, 5);
    is(x, 1, 8, 0, 0, 10);
    x.hold(8, 5);
    is(x, 1, 2, 1, 4, 30);
    x.setHold(1, 0, 9);
    DOC.says("GAPPED: as HELD, but without a HOLD AT HAND: SWAY; 1; 3; that of a GOING.");
    is(x, 2, 8, 1, 3, 10);
    x.set(0, 18);
    is(x, 2, 8, 1, 3, 10);
    x.set(0, 17);
    is(x, 2, 2, 1, 4, 30);
    x.set(0, 1);
    is(x, 2, 2, 1, 4, 30);
    FirstSteps y = new FirstSteps();
    y.going(299, 1);
    is(y, 0, 4, 1, 3, 10);
  }

  private static void free() {
    FirstSteps x = ofAll();
    DOC.says("FREE: SWAY; 2; 3; that of a GOING.");
    x.set(5, 9);
    is(x, 3, 4, 2, 3, 12);
    DOC.says("CARRYING: as FREE, but SWAY and m by 25.");
    is(x, 4, 7, 2, 3, 12);
    x.setGoing(4, 1, 24);
    is(x, 4, 4, 2, 3, 12);
    x.setGoing(4, 1, 0);
    is(x, 4, 4, 2, 3, 12);
    DOC.says("SLOPED: as FREE, but CATCH less the SLOPE of the FLOOR (without sign) by twice.");
    is(x, 5, 4, 2, 3, 12);
    int[][] slopes = {{1, 10}, {-1, 10}, {6, 0}, {-6, 0}, {9, -6}, {-9, -6}};
    for (int[] s : slopes) {
      x.floor(0, 1, s[0]);
      is(x, 5, 4, 2, 3, s[1]);
      is(x, 3, 4, 2, 3, 12);
    }
    x.set(0, 10);
    is(x, 5, 4, 2, 3, 12);
    x.set(0, 9);
    x.hold(9, 9);
    is(x, 3, 4, 2, 3, 12);
    is(x, 5, 4, 2, 3, -6);
  }

  /** The draw behind z, told in another way: 24 bits of what z * 1103515245 + 12345 leaves by 2 to the 32nd. */
  private static long drawBehind(int z) {
    BigInteger next = BigInteger.valueOf(z).multiply(BigInteger.valueOf(1103515245)).add(BigInteger.valueOf(12345));
    return next.mod(BigInteger.ONE.shiftLeft(32)).shiftRight(8).longValueExact();
  }

  private static void draws() {
    int[] seeds = {0, 1, -1, MIN, MAX, 12345, -1000000001, 1 << 30};
    DOC.says("A TENTH: a draw's rest by (twice SWAYS and 1), less SWAYS, is D.");
    FirstSteps x = still(0);
    for (int sway = 0; sway <= 9; sway++) {
      x.set(3, sway);
      for (int seed : seeds) {
        x.seed(seed);
        due("sways " + sway + ", z " + seed, x.then(1, 1), drawBehind(seed) % (2 * sway + 1) - sway);
      }
    }
    DOC.says("DRAWS: z is told (1 at first); each makes it z * 1103515245 + 12345 (an int), and gives z >>> 8.");
    due("at first", new FirstSteps().count(5), 1);
    int[] next = {12345, 1103527590, -1103502900, -2147471303, 1043980748};
    for (int i = 0; i < next.length; i++) {
      x.seed(seeds[i]);
      due("then leaves z", x.count(5), seeds[i]);
      x.set(1, 0);
      x.tenths(1);
      due("z behind " + seeds[i], x.count(5), next[i]);
    }
    x.set(3, 0);
    x.seed(1);
    x.tenths(1);
    due("without sways it draws, too", x.count(5), 1103527590);
    FirstSteps y = new FirstSteps();
    y.going(600, 1);
    y.tenths(2);
    due("sat, too", y.count(5), 1103527590 * 1103515245 + 12345);
  }

  private static void lean() {
    DOC.says("LEAN is LEAN, its fifth (cut) more, D more, the SLOPE of the FLOOR more;");
    FirstSteps x = still(0);
    int[][] leans = {{0, 0, 0}, {4, 0, 4}, {5, 0, 6}, {-4, 0, -4}, {-5, 0, -6}, {50, 9, 69}, {-50, 9, -51}, {50, -9, 51},
        {-50, -9, -69}, {82, 1, 99}, {0, 9, 9}, {0, -9, -9}, {-9, 9, -1}};
    for (int[] l : leans) {
      x.set(1, l[0]);
      x.floor(0, 1, l[1]);
      due("from " + l[0] + " on " + l[1], x.then(1, 1), l[2]);
    }
    x.floor(0, 1, 3);
    x.set(1, 20);
    x.set(3, 9);
    x.seed(1);
    due("and D", x.then(1, 1), 20 + 4 + drawBehind(1) % 19 - 9 + 3);
  }

  private static void upright() {
    DOC.says("if it isn't above 99 or below -99:");
    FirstSteps x = still(0);
    int[][] leans = {{83, 0, 99, 0}, {84, 0, 0, 1}, {-83, 0, -99, 0}, {-84, 0, 0, 1}, {99, 0, 0, 1}, {-99, 0, 0, 1},
        {82, 1, 99, 0}, {82, 2, 0, 1}, {-82, -1, -99, 0}, {-82, -2, 0, 1}, {84, -1, 99, 0}, {-84, 1, -99, 0}};
    for (int[] l : leans) {
      x.set(1, l[0]);
      x.floor(0, 1, l[1]);
      due("lean from " + l[0], x.then(1, 1), l[2]);
      due("falls from " + l[0], x.then(1, 7), l[3]);
      due("in all rows", x.ways(1, 0), l[3]);
    }
  }

  private static void paces() {
    DOC.says("if the TENTHS that were done of that GOING, and this, are a multiple of PACE (PACE not 0): a STEP:");
    FirstSteps x = still(3);
    int[] steps = {0, 0, 0, 1, 1, 1, 2, 2, 2, 3};
    for (int n = 0; n < steps.length; n++) {
      due("free, behind " + n, x.then(n, 8), steps[n]);
    }
    FirstSteps y = still(1);
    y.hold(0, 0);
    y.set(2, 30);
    int[] held = {0, 0, 0, 0, 1, 1, 1, 1, 2};
    for (int n = 0; n < held.length; n++) {
      due("held, behind " + n, y.then(n, 8), held[n]);
    }
    FirstSteps none = still(0);
    due("pace 0", none.then(200, 8), 0);
    none.setGoing(0, 0, 6);
    due("pace 0, sat", none.then(200, 8), 0);
    FirstSteps anew = new FirstSteps();
    anew.set(3, 0);
    anew.going(300, 2);
    anew.going(300, 4);
    // a TENTH of another GOING is none of this one's
    int[] each = {0, 0, 0, 0, 0, 1, 1, 1, 1, 1, 1, 2};
    for (int n = 0; n < each.length; n++) {
      due("anew with each going, behind " + n, anew.then(n, 8), each[n]);
    }
    FirstSteps set = still(0);
    set.tenths(5);
    set.setGoing(0, 0, 3);
    due("done as another kind, done still", set.then(1, 8), 1);
    due("but no tenth too early", still(3).then(2, 8), 0);
  }

  private static void caught() {
    DOC.says("LEAN is CATCH (less SLIP, twice; 0 at least) nearer to 0 (0 at most, or least); STEPS 1 more;");
    // a LEAN below 5 has no fifth, so it comes to the third TENTH as it is
    int[][] leans = {{4, 3, 1, 3}, {4, 4, 0, 0}, {4, 3, 0, 1}, {4, 5, 0, 0}, {-4, 3, 0, -1}, {-4, 4, 0, 0}, {-4, 50, 0, 0},
        {0, 50, 0, 0}, {4, 0, 0, 4}, {-4, 0, 0, -4}, {4, 18, 9, 4}, {4, 17, 9, 4}, {4, 19, 9, 3}, {-4, 17, 9, -4},
        {-4, 19, 9, -3}, {4, 0, 9, 4}, {-4, 0, 9, -4}, {1, 0, 0, 1}, {1, 1, 0, 0}, {-1, 0, 0, -1}, {-1, 1, 0, 0}};
    for (int[] l : leans) {
      FirstSteps x = still(3);
      x.set(1, l[0]);
      x.set(4, l[1]);
      for (int floor = 0; floor < 10; floor++) {
        x.floor(floor, 0, l[2]);
      }
      due("lean " + l[0] + ", strength " + l[1] + ", slip " + l[2], x.then(3, 1), l[3]);
      due("a step", x.then(3, 8), 1);
      x.tenths(3);
      due("as told ahead", x.is(1), l[3]);
      due("steps", x.is(8), 1);
    }
    // SLOPED on 9: 0, 9, 19, 31, and a CATCH of -18 is none
    FirstSteps y = still(5);
    y.set(4, 0);
    y.floor(0, 1, 9);
    due("a catch below 0", y.goingIs(0, 6), -18);
    due("is none", y.then(3, 1), 31);
    FirstSteps z = still(3);
    z.set(0, 9);
    z.set(1, 4);
    z.set(4, 3);
    z.floor(1, 0, 9);
    due("the slip of the floor it leaves", z.then(3, 1), 1);
  }

  private static void strides() {
    DOC.says("STRIDE CELLS forward (99 at most; YARDS by as many as it went).");
    int[][] ends = {{95, 97, 2}, {96, 98, 2}, {97, 99, 2}, {98, 99, 1}, {99, 99, 0}};
    for (int[] e : ends) {
      FirstSteps x = still(3);
      x.set(0, e[0]);
      due("cell from " + e[0], x.then(3, 0), e[1]);
      due("yards from " + e[0], x.then(3, 10), e[2]);
      due("a step, too", x.then(3, 8), 1);
      x.tenths(3);
      due("cell", x.is(0), e[1]);
      due("yards", x.is(10), e[2]);
      x.tenths(57);
      due("cell at the end", x.is(0), 99);
      due("yards at the end", x.is(10), 99 - e[0]);
      due("steps at the end", x.is(8), 20);
    }
    FirstSteps y = still(3);
    y.tenths(60);
    due("set back", y.set(0, 0), 40);
    due("no yards by it", y.is(10), 40);
    y.tenths(3);
    due("yards by all that it went", y.is(10), 42);
  }

  private static void falls() {
    DOC.says("Else it FALLS: LEAN is 0, FALLS 1 more; it strikes the NEAREST HOLD, if that is AT HAND: BUMPS more by "
        + "HARD (0 if PADDED);");
    FirstSteps x = still(3);
    x.tenths(2);
    x.set(1, 99);
    due("no hold", x.then(1, 9), 0);
    x.tenths(1);
    due("lean", x.is(1), 0);
    due("falls", x.is(7), 1);
    due("no step", x.is(8), 0);
    due("no stride", x.is(0), 0);
    due("no yards", x.is(10), 0);
    due("left is less", x.is(12), 57);
    x.set(1, -99);
    x.tenths(1);
    due("backward", x.is(7), 2);
    due("lean", x.is(1), 0);
  }

  private static void strikes() {
    DOC.says("it strikes the NEAREST HOLD, if that is AT HAND: BUMPS more by HARD (0 if PADDED);");
    FirstSteps x = still(3);
    x.set(0, 50);
    x.set(1, 99);
    x.hold(59, 70);
    due("not at hand", x.then(1, 9), 0);
    x.setHold(0, 0, 58);
    due("at hand", x.then(1, 9), 70);
    x.hold(42, 30);
    due("the least of two", x.then(1, 9), 70);
    x.setHold(1, 0, 43);
    due("the nearest", x.then(1, 9), 30);
    x.setHold(1, 2, 1);
    due("padded, though another is hard", x.then(1, 9), 0);
    x.setHold(1, 2, 0);
    x.setHold(1, 1, 0);
    due("not hard", x.then(1, 9), 0);
    x.setHold(1, 1, 99);
    due("as hard as can be", x.then(1, 9), 99);
    x.tenths(1);
    x.set(1, -99);
    x.tenths(1);
    due("together", x.is(9), 198);
    DOC.says("LEARNED more by LEARNS (h: those BUMPS).");
    due("by 1 each", x.is(6), 2);
    x.setHold(1, 2, 1);
    x.set(1, 99);
    due("by 5 padded", x.then(1, 6), 7);
    Made.text(x, 0, "h+100");
    due("by the text", x.then(1, 6), 102);
    x.setHold(1, 2, 0);
    due("by the text, hard", x.then(1, 6), 201);
    due("a fall behind it", x.then(2, 6), 201);
  }

  private static void left() {
    DOC.says("Then LEFT is 1 less; with 0 the next GOING comes.");
    FirstSteps x = new FirstSteps();
    x.set(3, 0);
    x.going(600, 2);
    x.going(600, 1);
    int[] shown = {2, 1, 101, 2, 1, 101, 2};
    for (int n = 0; n < shown.length; n++) {
      due("behind " + n, 100 * x.then(n, 11) + x.then(n, 12), shown[n]);
      x.set(1, 99);
      due("a fall takes as long", 100 * x.then(n, 11) + x.then(n, 12), shown[n]);
      x.set(1, 0);
    }
    DOC.says("(Without GOINGS nothing is done, no draw.)");
    FirstSteps y = Made.withHolds(0);
    y.set(1, 99);
    y.floor(0, 1, 9);
    for (int what = 0; what <= 13; what++) {
      due("ahead without goings", y.then(200, what), y.is(what));
    }
    due("none are done", y.tenths(200), STATE);
    due("no lean", y.is(1), 99);
    due("no fall", y.is(7), 0);
    due("no draw", y.count(5), 1);
  }

  private static void days() {
    DOC.says("A DAY: WEEKS are 1 more behind each seventh one (60 at most);");
    FirstSteps x = new FirstSteps();
    int[] weeks = {0, 0, 0, 0, 0, 0, 1, 1, 1, 1, 1, 1, 1, 2};
    for (int i = 0; i < weeks.length; i++) {
      due("weeks behind day " + (i + 1), x.days(1), weeks[i]);
    }
    due("at once", new FirstSteps().days(60), 8);
    FirstSteps y = new FirstSteps();
    y.set(5, 59);
    due("six days", y.days(6), 59);
    due("the seventh", y.days(1), 60);
    due("60 at most", y.days(60), 60);
    y.set(5, 0);
    due("less again", y.days(3), 1);
    FirstSteps z = new FirstSteps();
    z.days(5);
    z.set(5, 30);
    due("seven by days so far", z.days(2), 31);
    DOC.says("THE CHILD is in CELL 0, LEAN 0, GOING 0 comes;");
    FirstSteps w = still(3);
    w.going(600, 7);
    w.tenths(62);
    w.set(1, -99);
    due("now", w.is(11), 1);
    w.days(1);
    int[] is = {0, 0, 8, 0, 10, 0, 0, 0, 20, 0, 40, 0, 60, 1};
    for (int what = 0; what <= 13; what++) {
      due("is " + what, w.is(what), is[what]);
    }
    w.tenths(2);
    w.days(1);
    due("the first going with all its tenths", w.is(12), 60);
    DOC.says("DAYS so far (0 .. 9999; 0 at first).");
    due("at first", new FirstSteps().is(13), 0);
    FirstSteps o = Made.old(9999);
    due("9999", o.is(13), 9999);
    due("no more", o.days(1), STATE);
    due("9999 still", o.is(13), 9999);
  }

  // ---- 4, ahead

  private static void ahead() {
    DOC.says("AHEAD by n (0 .. 200) TENTHS: as they would go by (also draws).");
    int[] ns = {0, 1, 7, 199, 200};
    for (int n : ns) {
      FirstSteps x = Made.rich();
      FirstSteps y = Made.rich();
      if (n > 0) {
        y.tenths(n);
      }
      for (int what = 0; what <= 13; what++) {
        due("behind " + n + ", is " + what, x.then(n, what), y.is(what));
      }
    }
    Twins.unchanged("nothing changes", Made::rich, x -> x.then(200, 13), 7);
    FirstSteps x = Made.rich();
    due("below", x.then(-1, 0), BEYOND);
    due("above", x.then(201, 0), BEYOND);
  }

  private static void fraction(FirstSteps x, int n, long above, long below) {
    due("above by " + n, x.ways(n, 0), above);
    due("below by " + n, x.ways(n, 1), below);
  }

  private static void ways() {
    DOC.says("FALLS' WAYS by n (1 .. 8): of all rows of n D, one for each of the next n TENTHS, from -SWAYS to SWAYS as "
        + "that is then, those by which it would have fallen within them:");
    FirstSteps x = new FirstSteps();
    x.going(0, 1);
    x.going(600, 1);
    // 80 and 16: above 99 by D of 4 alone, of nine
    x.set(1, 80);
    fraction(x, 1, 1, 9);
    x.set(1, -80);
    fraction(x, 1, 1, 9);
    // 66 and 13: 75 .. 83 behind the first; SAT then, one D: 83 and 16 is 99
    x.set(1, 66);
    fraction(x, 2, 0, 1);
    // 67 and 13: 76 .. 84; 84 and 16 is 100
    x.set(1, 67);
    fraction(x, 1, 0, 1);
    fraction(x, 2, 1, 9);
    due("0 tenths", x.ways(0, 0), BEYOND);
    due("9 tenths", x.ways(9, 0), BEYOND);
    DOC.says("a fraction of all rows, in lowest terms");
    FirstSteps y = new FirstSteps();
    y.going(0, 60);
    int[][] leans = {{0, 0, 1}, {79, 0, 1}, {81, 2, 9}, {82, 1, 3}, {84, 5, 9}, {85, 7, 9}, {86, 8, 9}, {87, 1, 1}, {99, 1, 1},
        {-82, 1, 3}, {-86, 8, 9}, {-99, 1, 1}};
    for (int[] l : leans) {
      y.set(1, l[0]);
      fraction(y, 1, l[1], l[2]);
    }
    y.set(1, 99);
    fraction(y, 8, 1, 1);
    y.set(1, 0);
    fraction(y, 8, 0, 1);
    y.set(3, 0);
    y.set(1, 99);
    fraction(y, 8, 1, 1);
    y.set(1, 4);
    fraction(y, 8, 0, 1);
  }

  private static void waysAsWithoutFalls() {
    DOC.says("(GOINGS, CELLS, SWAYS and CATCH of these TENTHS are as without any fall: STEPS come as told; a row by which "
        + "it has fallen counts with any D of later TENTHS).");
    FirstSteps x = new FirstSteps();
    x.going(0, 60);
    x.set(1, 80);
    // 92 .. 100 behind the first; 92 and 18 is 110, less 4 above 99 still: all fall in the second
    fraction(x, 1, 1, 9);
    fraction(x, 2, 1, 1);
    x.set(1, 70);
    // 80 .. 88 behind the first, one row each, and nine D more
    int fallen = 0;
    for (int lean = 80; lean <= 88; lean++) {
      for (int d = -4; d <= 4; d++) {
        fallen += lean + lean / 5 + d > 99 ? 1 : 0;
      }
    }
    fraction(x, 2, fallen / gcd(fallen, 81), 81 / gcd(fallen, 81));
    // a LEARNS of 999 at a fall would make CATCH more by 9: without any fall it is as it is
    FirstSteps y = new FirstSteps();
    y.going(300, 60);
    y.set(1, 60);
    long above = y.ways(6, 0);
    long below = y.ways(6, 1);
    Made.text(y, 0, "999");
    fraction(y, 6, above, below);
    waysByOtherSways();
    waysBySteps();
  }

  /** Without SWAYS: the STEP of the third TENTH comes to FLOOR 1, which leans forward. */
  private static void waysBySteps() {
    FirstSteps x = still(3);
    x.set(0, 8);
    x.set(1, 45);
    x.floor(0, 1, -9);
    x.floor(1, 1, 9);
    // strength and slip of both floors, then the TENTH in which it falls (9: in none of eight); 45 stays 45 on FLOOR 0
    int[][] falls = {{0, 0, 6}, {4, 0, 6}, {10, 0, 7}, {18, 9, 6}, {19, 9, 6}, {50, 9, 9}};
    for (int[] f : falls) {
      x.set(4, f[0]);
      x.floor(0, 0, f[1]);
      x.floor(1, 0, f[1]);
      for (int n = 1; n <= 8; n++) {
        due("ahead by " + n, x.then(n, 7), n < f[2] ? 0 : 1);
        fraction(x, n, n < f[2] ? 0 : 1, 1);
      }
    }
    // the first STEP is caught by the slip of FLOOR 0, which it leaves, the second one by that of FLOOR 1
    int[][] slips = {{0, 9, 7}, {9, 0, 6}};
    x.set(4, 10);
    for (int[] s : slips) {
      x.floor(0, 0, s[0]);
      x.floor(1, 0, s[1]);
      fraction(x, s[2] - 1, 0, 1);
      fraction(x, s[2], 1, 1);
    }
    x.set(0, 7);
    x.set(4, 0);
    fraction(x, 8, 0, 1);
  }

  /** Nine D in the first TENTH, fifteen in the second one, which CARRIES. */
  private static void waysByOtherSways() {
    FirstSteps x = new FirstSteps();
    x.going(0, 1);
    x.going(475, 1);
    x.set(1, 82);
    fraction(x, 1, 1, 3);
    // 82 and 16: 94 .. 102; 94 and 18 is 112, less 7 above 99
    fraction(x, 2, 1, 1);
    // 64 and 12: 72 .. 80 behind the first, one row each
    int fallen = 0;
    for (int lean = 72; lean <= 80; lean++) {
      for (int d = -7; d <= 7; d++) {
        fallen += lean + lean / 5 + d > 99 ? 1 : 0;
      }
    }
    x.set(1, 64);
    fraction(x, 1, 0, 1);
    fraction(x, 2, fallen / gcd(fallen, 135), 135 / gcd(fallen, 135));
  }

  private static int gcd(int a, int b) {
    return b == 0 ? a : gcd(b, a % b);
  }

  private static void gaps() {
    DOC.says("GAPS: between CELLS of HOLDS that follow each other along THE ROOM (those in one CELL once).");
    int[][] rows = {{}, {0}, {0, 99}, {5, 5}, {5, 5, 5, 9}, {9, 5, 9, 5}, {99, 0, 50}, {7, 6, 5, 4, 3, 2, 1, 0}};
    int[][] dues = {{0, 0, 0}, {0, 0, 0}, {1, 0, 99}, {0, 0, 0}, {1, 1, 0}, {1, 1, 0}, {2, 0, 50}, {7, 7, 0}};
    for (int i = 0; i < rows.length; i++) {
      FirstSteps x = Made.withHolds(rows[i]);
      for (int what = 0; what < 3; what++) {
        due("row " + i + ", what " + what, x.gaps(what), dues[i][what]);
      }
    }
    DOC.says("A GAP is DARED by DARES (g CELLS of it).");
    FirstSteps y = Made.withHolds(10, 18, 27, 37);
    due("8 of 8, 9, 10", y.gaps(1), 1);
    Made.text(y, 1, "g=9");
    due("9 alone", y.gaps(1), 1);
    due("the widest not dared", y.gaps(2), 10);
    Made.text(y, 1, "g>8");
    due("9 and 10", y.gaps(1), 2);
    due("the widest not dared", y.gaps(2), 8);
    y.untell(1);
    due("8 again", y.gaps(2), 10);
    DOC.says("WIDEST: the widest GAP that isn't DARED (0 without).");
    y.set(2, 9);
    due("10 alone is not", y.gaps(2), 10);
    y.set(2, 10);
    due("none is not", y.gaps(2), 0);
    y.set(2, 1);
    due("none is", y.gaps(2), 10);
    due("nothing dared", y.gaps(1), 0);
    due("no holds", new FirstSteps().gaps(2), 0);
  }

  private static void way() {
    DOC.says("WAY from a HOLD to another one: whether each GAP between their CELLS is DARED.");
    FirstSteps x = Made.withHolds(50, 40, 58, 40, 66);
    // along the room 40 (1, 3), 50 (0), 58 (2), 66 (4): gaps of 10, 8, 8
    int[][] ways = {{0, 0, 1}, {1, 3, 1}, {3, 1, 1}, {1, 0, 0}, {0, 1, 0}, {0, 2, 1}, {2, 0, 1}, {0, 4, 1}, {4, 0, 1}, {1, 4, 0},
        {4, 3, 0}, {1, 1, 1}};
    for (int[] w : ways) {
      due(w[0] + " to " + w[1], x.way(w[0], w[1]), w[2]);
    }
    x.setHold(2, 0, 59);
    due("one gap of 9, one of 7", x.way(0, 4), 0);
    due("behind it", x.way(2, 4), 1);
    x.set(2, 9);
    due("dared", x.way(0, 4), 1);
    due("back", x.way(4, 0), 1);
    due("not 10", x.way(3, 4), 0);
    x.set(2, 10);
    due("10, too", x.way(3, 4), 1);
    Made.text(x, 1, "0");
    due("none is dared", x.way(3, 4), 0);
    due("there is none in one cell", x.way(3, 1), 1);
    due("nor to itself", x.way(2, 2), 1);
  }

  private static void pad() {
    DOC.says("PAD by n: the HOLD that, if PADDED now, makes BUMPS AHEAD by n least; of several the least.");
    FirstSteps x = still(0);
    x.hold(30, 99);
    x.hold(2, 50);
    x.hold(1, 60);
    x.set(1, 99);
    due("n 0", x.pad(0), 0);
    due("the one it strikes", x.pad(1), 2);
    x.set(0, 2);
    due("another place", x.pad(1), 1);
    x.set(0, 99);
    due("none is struck", x.pad(200), 0);
    x.set(0, 2);
    x.setHold(1, 2, 1);
    due("padded already", x.pad(1), 0);
    x.setHold(1, 2, 0);
    x.setHold(1, 1, 0);
    due("not hard", x.pad(1), 0);
    x.setHold(2, 2, 1);
    x.set(0, 0);
    due("none makes less, the one that is padded neither", x.pad(1), 0);
    x.setHold(0, 0, 0);
    x.setHold(0, 2, 1);
    due("the least, though it is the padded one that is struck", x.pad(1), 0);
    x.setHold(0, 2, 0);
    x.setHold(2, 2, 0);
    due("nothing is padded", x.holdIs(0, 2) + x.holdIs(1, 2) + x.holdIs(2, 2), 0);
    FirstSteps y = Made.withHolds(0, 0);
    due("without goings", y.pad(200), 0);
    FirstSteps z = falling(999999 % 100);
    z.hold(0, 98);
    due("of two in one cell the first is struck", z.pad(200), 0);
    z.setHold(0, 0, 1);
    due("now the other one", z.pad(200), 1);
  }

  private static void stand() {
    DOC.says("STAND of a HOLD by n (0 .. 60): the CELL in which, if it stood there, YARDS AHEAD by n are most; of several "
        + "the least.");
    FirstSteps x = still(1);
    x.set(2, 2);
    x.hold(99, 0);
    // by a REACH of 2 it goes along the HOLD, a CELL in four TENTHS, until it is 3 CELLS behind it
    due("n 0", x.stand(0, 0), 0);
    due("n 3", x.stand(0, 3), 0);
    due("n 4", x.stand(0, 4), 0);
    due("n 16, four yards", x.stand(0, 16), 1);
    due("n 20, five yards", x.stand(0, 20), 2);
    due("n 24, five yards still", x.stand(0, 24), 2);
    due("n 60", x.stand(0, 60), 2);
    due("it stands where it stood", x.holdIs(0, 0), 99);
    x.set(0, 99);
    due("no yards left", x.stand(0, 60), 0);
    x.set(0, 98);
    due("one yard left", x.stand(0, 60), 96);
    FirstSteps y = Made.withHolds(7);
    due("without goings", y.stand(0, 60), 0);
    due("below", y.stand(0, -1), BEYOND);
    due("above", y.stand(0, 61), BEYOND);
  }

  private static void go() {
    DOC.says("GO by n: the KIND (0 .. 6; m as it is) with which, if GOING NOW were of it, YARDS less FALLS times 10 AHEAD "
        + "by n are most; of several the least.");
    FirstSteps x = still(6);
    due("n 0", x.go(0), 0);
    due("n 2, no yards", x.go(2), 0);
    due("n 3, two yards", x.go(3), 3);
    due("n 200", x.go(200), 3);
    due("it sits", x.goingIs(0, 0), 6);
    x.set(0, 98);
    due("one yard either way", x.go(3), 2);
    x.set(0, 99);
    due("none", x.go(60), 0);
    FirstSteps y = new FirstSteps();
    y.set(3, 0);
    y.going(600, 1);
    y.going(300, 3);
    due("that of now alone", y.go(4), 0);
    y.tenths(1);
    due("that of now", y.go(3), 3);
    weighed();
    FirstSteps z = still(3);
    z.set(1, 99);
    due("a fall each", z.go(1), 0);
    due("below", z.go(-1), BEYOND);
    due("above", z.go(201), BEYOND);
  }

  /**
   * On FLOOR 1 each LEAN grows by 9 and nothing is caught: FREE it comes there with the fifteenth TENTH and falls
   * with the seventh behind it; GAPPED it comes there with the thirtieth.
   */
  private static void weighed() {
    FirstSteps x = still(3);
    x.set(4, 18);
    x.floor(1, 0, 9);
    x.floor(1, 1, 9);
    due("yards free", x.then(21, 10), 14);
    due("no fall yet", x.then(21, 7), 0);
    due("free", x.go(21), 3);
    due("a fall", x.then(22, 7), 1);
    due("14 less 10 against 7", x.go(22), 2);
    due("22 yards, and two falls", 100 * x.then(33, 10) + x.then(33, 7), 2202);
    due("22 less 20 against 11", x.go(33), 2);
    due("34 yards, and two falls still", 100 * x.then(51, 10) + x.then(51, 7), 3402);
    due("34 less 20 against 16 less 30, and against 0", x.go(51), 3);
    FirstSteps y = still(3);
    y.set(4, 45);
    y.floor(1, 0, 9);
    y.floor(1, 1, 9);
    due("22 yards free, and a fall", 100 * y.then(36, 10) + y.then(36, 7), 2201);
    due("22 less 10 is not more than 12", y.go(36), 2);
    due("24 yards free, and a fall", 100 * y.then(39, 10) + y.then(39, 7), 2401);
    due("24 less 10 is more than 13", y.go(39), 3);
  }

  private static void films() {
    DOC.says("A FILM is a SHEET whose numbers are CELLS behind TENTHS 1, 2, ..: OFF: differences without sign, each held at "
        + "1000, together.");
    FirstSteps x = still(3);
    x.set(0, 7);
    x.sheet(0, 32, 4);
    // cells 7, 7, 9, 9
    int[][] films = {{7, 7, 9, 9, 0}, {6, 8, 9, 9, 2}, {7, 7, 9, 8, 1}, {7, 7, 1009, 9, 1000}, {7, 7, 1008, 9, 999},
        {7, 7, 1010, 9, 1000}, {7, 7, -991, 9, 1000}, {7, 7, -990, 9, 999}, {7, 7, -992, 9, 1000}, {MAX, MIN, MAX, MIN, 4000},
        {MIN + 6, MIN + 7, MIN + 8, MIN + 9, 4000}, {7, 7, 7, 7, 4}};
    for (int[] f : films) {
      for (int i = 0; i < 4; i++) {
        x.put(0, i, f[i]);
      }
      due("off", x.off(0), f[4]);
    }
    x.sheet(1, 32, 24);
    for (int i = 0; i < 24; i++) {
      x.put(1, i, i % 2 == 0 ? MIN : MAX);
    }
    due("as far off as can be", x.off(1), 24000);
    x.sheet(2, 16, 0);
    due("no numbers", x.off(2), 0);
    due("missing", x.off(3), NONE);
    FirstSteps y = new FirstSteps();
    y.set(0, 3);
    y.sheet(0, 8, 2);
    due("without goings it stays", y.off(0), 6);
  }

  private static void guess() {
    DOC.says("GUESS: WEEKS (0 .. 60) now by which it is OFF least; of several the least.");
    FirstSteps x = still(3);
    x.sheet(0, 8, 24);
    x.sheet(1, 8, 0);
    due("all alike", x.guess(0), 0);
    due("no numbers", x.guess(1), 0);
    x.set(5, 33);
    due("all alike still", x.guess(0), 0);
    due("they stay", x.is(5), 33);
    // The LEAN of 57 is 68, 81, 97 less CATCH; with a CATCH of 28 it falls where it would step in the sixth.
    int[][] strengths = {{28, 0}, {27, 4}, {14, 56}, {13, 60}, {12, 0}, {50, 0}};
    for (int[] s : strengths) {
      FirstSteps y = leaning(s[0]);
      due("strength " + s[0], y.guess(0), s[1]);
      y.set(5, 58);
      due("whatever they are now", y.guess(0), s[1]);
      due("and they stay so", y.is(5), 58);
      due("that is the least of the least", least(y), s[1]);
    }
  }

  /** FREE, with a FILM in which it steps once in six TENTHS. */
  private static FirstSteps leaning(int strength) {
    FirstSteps x = still(3);
    x.set(1, 57);
    x.set(4, strength);
    x.sheet(0, 8, 6);
    for (int i = 2; i < 6; i++) {
      x.put(0, i, 2);
    }
    return x;
  }

  /** The WEEKS by which off() is least, by asking it for each. */
  private static int least(FirstSteps x) {
    int best = 0;
    int least = MAX;
    for (int weeks = 0; weeks <= 60; weeks++) {
      x.set(5, weeks);
      int off = x.off(0);
      if (off < least) {
        least = off;
        best = weeks;
      }
    }
    return best;
  }

  // ---- 5, 6, voices, sheets

  /** GOINGS 0 .. 6 of the KINDS 0 .. 6, with an m of 10 more. */
  private static FirstSteps speaking() {
    FirstSteps x = new FirstSteps();
    for (int kind = 0; kind < 7; kind++) {
      x.going(100 * kind + 10 + kind, 1);
    }
    return x;
  }

  private static void bodies() {
    DOC.says("VOICES of a GOING, with a number x (ints that wrap); k is its number, m as told: 0 leans, 1 steps, 2 falls, 3 "
        + "learns. BODIES: GOING: 10 leans: x + k. 11 steps: leans(x) * 2. 12 falls: steps(x) - m.");
    FirstSteps x = speaking();
    due("leans", x.voice(0, 0, 7), 7);
    due("steps", x.voice(0, 1, 7), 14);
    due("falls", x.voice(0, 2, 7), 4);
    due("steps wrap", x.voice(0, 1, 1 << 30), MIN);
    due("steps wrap to 0", x.voice(0, 1, MIN), 0);
    due("falls wrap", x.voice(0, 2, MIN / 2), MAX - 9);
    DOC.says("HELD: 20 leans: super.leans(x) - 3. 21 learns: super.learns(x) + steps(1). GAPPED: 30 steps: 0 - "
        + "super.steps(x). FREE: 40 falls: super.falls(x / 2). CARRYING: 50 leans: super.leans(x) * 3. 51 falls: "
        + "super.falls(x) ^ k. SLOPED: 60 steps: super.steps(x + 1). SAT: 70 leans: 4. 71 steps: super.steps(x) + m.");
    // KIND and x, then leans, steps, falls, learns; m - k is 10 for all
    int[][] dues = {{0, 7, 7, 14, 4, 0}, {1, 7, 5, 10, -1, -2}, {1, 29, 27, 54, 43, 0}, {2, 7, 6, -12, -24, 0},
        {2, 20, 19, -38, -50, 2}, {3, 7, 10, 20, -1, 0}, {3, -7, -4, -8, -13, 0}, {4, 7, 33, 66, 24, 0},
        {4, 0, 12, 24, 14, 0}, {5, 7, 12, 26, 3, 0}, {5, -9, -4, -6, -11, 0}, {6, 7, 4, 24, 8, 0},
        {6, -95, 4, 24, 8, -9}};
    for (int[] d : dues) {
      for (int voice = 0; voice < 4; voice++) {
        due(d[0] + " says " + voice + " of " + d[1], x.voice(d[0], voice, d[1]), d[2 + voice]);
      }
    }
    due("held leans, wrapping", x.voice(1, 0, MIN), MAX - 1);
    due("carrying leans, wrapping", x.voice(4, 0, MAX), (MAX + 4) * 3);
    due("sloped steps, wrapping", x.voice(5, 1, MAX), (MIN + 5) * 2);
    due("gapped steps of the least int", x.voice(2, 1, MIN / 2 + 1), MIN);
    due("sat leans", x.voice(6, 0, MIN), 4);
  }

  private static void bodiesParted() {
    DOC.says("13 learns: x by (m - k), cut (PARTED if that is 0; that is all that voice() answers then).");
    FirstSteps x = new FirstSteps();
    for (int kind = 0; kind < 7; kind++) {
      x.going(100 * kind + kind, 1);
    }
    int[] xs = {0, 1, -1, MIN, MAX};
    int told = 0;
    for (int kind = 0; kind < 7; kind++) {
      for (int v : xs) {
        due(kind + " parted of " + v, x.voice(kind, 3, v), PARTED);
        told++;
      }
      due("told", x.told(6), told);
      x.setGoing(kind, 1, kind + 1);
      // m - k is 1; HELD and GAPPED add steps of 1
      int more = kind == 1 ? -2 : 0;
      due(kind + " by 1", x.voice(kind, 3, -9), -9 + more);
      due(kind + " of 0 is no parting", x.voice(kind, 3, 0), more);
    }
    x.setGoing(3, 1, 2);
    due("by -1", x.voice(3, 3, 9), -9);
    due("the least int by -1 wraps", x.voice(3, 3, MIN), MIN);
    x.setGoing(3, 1, 99);
    due("cut", x.voice(3, 3, 95), 0);
    due("cut", x.voice(3, 3, -95), 0);
    due("whole", x.voice(3, 3, -96), -1);
    due("told no more", x.told(6), told);
  }

  private static void voicesAbove() {
    DOC.says("leans(..) is the BODY of its KIND, or of the next KIND above that has one; super.leans(..) that from the KIND "
        + "above the BODY's on.");
    FirstSteps x = speaking();
    // GAPPED has no leans: that of HELD; its steps call those of GOING, which call leans of GAPPED again
    trace(x, 2, 0, 20, 10);
    trace(x, 2, 1, 30, 11, 20, 10);
    // CARRYING has no steps, nor has FREE
    trace(x, 4, 1, 11, 50, 10);
    trace(x, 5, 0, 10);
    trace(x, 5, 3, 13);
    trace(x, 6, 2, 12, 71, 11, 70);
  }

  private static void trace(FirstSteps x, int going, int voice, int... bodies) {
    x.voice(going, voice, 7);
    due("how many", x.count(4), bodies.length);
    for (int i = 0; i < bodies.length; i++) {
      due(going + " says " + voice + ", body " + i, x.body(i), bodies[i]);
    }
    due("no more", x.body(bodies.length), NONE);
    due("none ahead", x.body(-1), NONE);
  }

  private static void trace() {
    DOC.says("THE TRACE: the numbers of BODIES of the latest voice(), as they began (what stands left is worked out first), "
        + "the first 30.");
    FirstSteps x = speaking();
    due("none at first", x.count(4), 0);
    due("none at first", x.body(0), NONE);
    trace(x, 1, 3, 21, 13, 11, 20, 10);
    trace(x, 2, 3, 21, 13, 30, 11, 20, 10);
    trace(x, 4, 2, 51, 40, 12, 11, 50, 10);
    trace(x, 5, 2, 40, 12, 60, 11, 10);
    trace(x, 0, 0, 10);
    x.setGoing(1, 1, 1);
    trace(x, 1, 3, 21, 13);
    x.voice(7, 0, 0);
    due("a refused one is none", x.count(4), 2);
    for (int going = 0; going < 7; going++) {
      for (int voice = 0; voice < 4; voice++) {
        x.voice(going, voice, 1);
        Due.holds("never more than 30", x.count(4) >= 1 && x.count(4) <= 30);
      }
    }
  }

  private static void sheets() {
    DOC.says("SHEETS 0 .. 3 are rows of 8, 16, 32 bits, at most 24 numbers, or missing (as at first).");
    int[] bits = {8, 16, 32};
    for (int sheet = 0; sheet < 4; sheet++) {
      FirstSteps x = new FirstSteps();
      due("missing at first", x.put(sheet, 0, 0), NONE);
      for (int b : bits) {
        due("at most 24", x.sheet(sheet, b, 24), 1);
        due("the last", x.put(sheet, 23, 1), 1);
        due("none behind it", x.put(sheet, 24, 1), BEYOND);
        due("not 25", x.sheet(sheet, b, 25), BEYOND);
        due("as it was", x.off(sheet), 1);
        due("none", x.sheet(sheet, b, 0), 1);
        due("no number", x.put(sheet, 0, 1), BEYOND);
      }
      int[] others = {1, 4, 7, 9, 24, 64, -8, 12, 31, 33, MIN, MAX};
      for (int b : others) {
        due(b + " bits", x.sheet(sheet, b, 1), BEYOND);
      }
      due("missing again", x.sheet(sheet, 0, 0), 1);
      due("missing again", x.off(sheet), NONE);
    }
    due("no sheet ahead", new FirstSteps().sheet(-1, 8, 1), BEYOND);
    due("no sheet behind", new FirstSteps().sheet(4, 8, 1), BEYOND);
  }
}

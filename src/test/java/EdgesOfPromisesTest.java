import java.util.function.Supplier;

/** Each sentence of the document's promises, its edges first of all, with a test of its own. */
public final class EdgesOfPromisesTest {
  private static final int BEYOND = Due.BEYOND;
  private static final int NONE = Due.NONE;
  private static final int STATE = Due.STATE;
  private static final int FULL = Due.FULL;
  private static final int KIND = Due.KIND;
  private static final int PARTED = Due.PARTED;
  private static final int MIN = Integer.MIN_VALUE;
  private static final int MAX = Integer.MAX_VALUE;
  private static final Doc DOC = Doc.promises();

  private EdgesOfPromisesTest() {}

  /** A call with one argument left open. */
  interface Asking {
    long of(FirstSteps x, int v);
  }

  public static void main(String[] args) {
    aNewObject();
    floor();
    hold();
    holdIs();
    setHold();
    set();
    is();
    nearest();
    going();
    goingIs();
    as();
    setGoing();
    feed();
    text();
    textFaults();
    untell();
    tenths();
    days();
    seed();
    then();
    ways();
    way();
    gaps();
    pad();
    stand();
    go();
    voice();
    body();
    sheet();
    put();
    move();
    moveRefused();
    holds();
    off();
    guess();
    image();
    restore();
    tell();
    check();
    count();
    told();
    DOC.noneLeft();
    Due.end();
  }

  private static void due(String call, long got, long want) {
    Due.due(call, got, want);
  }

  private static FirstSteps still(int kind) {
    return Made.still(kind);
  }

  /** Without SHEET 2, and otherwise rich. */
  private static FirstSteps missing() {
    FirstSteps x = Made.rich();
    x.sheet(2, 0, 0);
    return x;
  }

  /** Both ends are no ERROR; what is outside, by one or far, is BEYOND, and changes nothing. */
  private static void range(String name, int least, int most, Asking call) {
    ends(name, least, most, call);
    outside(name, Made::rich, new int[] {MIN, least - 1, most + 1, MAX}, call, BEYOND);
  }

  private static void ends(String name, int least, int most, Asking call) {
    Due.holds(name + " " + least, call.of(Made.rich(), least) >= -1000000000L);
    Due.holds(name + " " + most, call.of(Made.rich(), most) >= -1000000000L);
  }

  private static void outside(String name, Supplier<FirstSteps> made, int[] values, Asking call, int error) {
    for (int v : values) {
      Twins.refused(name + " " + v, made, x -> call.of(x, v), error);
    }
  }

  private static void aNewObject() {
    DOC.says(1, "All as at first; no HOLDS, GOINGS.");
    int[] is = {0, 0, 8, 4, 10, 0, 0, 0, 0, 0, 0, 0, 0, 0};
    int[] count = {0, 0, 0, 0, 0, 1};
    FirstSteps x = new FirstSteps();
    for (int what = 0; what <= 13; what++) {
      due("is " + what, x.is(what), is[what]);
      due("then " + what, x.then(200, what), is[what]);
    }
    for (int what = 0; what <= 5; what++) {
      due("count " + what, x.count(what), count[what]);
      due("told " + (what + 1), x.told(what + 1), 0);
    }
    for (int floor = 0; floor < 10; floor++) {
      due("slip", x.floor(floor, 0, 9), 0);
      due("slope", x.floor(floor, 1, -9), 0);
    }
    due("gaps", x.gaps(0), 0);
    due("no text", x.untell(0), 0);
    due("no text", x.untell(1), 0);
    due("nothing waits", x.check(), 0);
    due("no tape", x.text(0), -10);
    due("no hold", x.holdIs(0, 0), BEYOND);
    due("no going", x.goingIs(0, 0), BEYOND);
    due("no nearest", x.nearest(), NONE);
    due("no body", x.body(0), NONE);
    due("no image", x.restore(), NONE);
    for (int sheet = 0; sheet < 4; sheet++) {
      due("no sheet", x.off(sheet), NONE);
    }
    FirstSteps y = new FirstSteps();
    due("another one is as at first, too", y.floor(0, 0, 0), 0);
    due("and told nothing", y.told(2), 0);
  }

  private static void floor() {
    DOC.says(2, "SLIP (what 0), SLOPE (1) of a FLOOR (0 .. 9) becomes v: what it was.");
    for (int floor = 0; floor < 10; floor++) {
      FirstSteps x = new FirstSteps();
      due("slip 9", x.floor(floor, 0, 9), 0);
      due("slope -9", x.floor(floor, 1, -9), 0);
      due("slip 0", x.floor(floor, 0, 0), 9);
      due("slope 9", x.floor(floor, 1, 9), -9);
      for (int other = 0; other < 10; other++) {
        due("slip of " + other, x.floor(other, 0, 1), 0);
        due("slope of " + other, x.floor(other, 1, 1), other == floor ? 9 : 0);
      }
    }
    DOC.says(2, "BEYOND.");
    range("floor", 0, 9, (x, v) -> x.floor(v, 0, 1));
    range("what", 0, 1, (x, v) -> x.floor(0, v, 1));
    range("slip", 0, 9, (x, v) -> x.floor(3, 0, v));
    range("slope", -9, 9, (x, v) -> x.floor(3, 1, v));
  }

  private static void hold() {
    DOC.says(3, "A HOLD: its number.");
    FirstSteps x = new FirstSteps();
    int[][] holds = {{0, 0}, {99, 99}, {0, 99}, {99, 0}, {50, 50}, {50, 50}, {1, 98}, {98, 1}};
    for (int i = 0; i < holds.length; i++) {
      due("number", x.hold(holds[i][0], holds[i][1]), i);
      due("how many", x.count(0), i + 1);
      for (int j = 0; j <= i; j++) {
        due("cell", x.holdIs(j, 0), holds[j][0]);
        due("hard", x.holdIs(j, 1), holds[j][1]);
        due("not padded", x.holdIs(j, 2), 0);
      }
    }
    DOC.says(3, "BEYOND.");
    range("cell", 0, 99, (y, v) -> y.hold(v, 9));
    range("hard", 0, 99, (y, v) -> y.hold(9, v));
    due("ahead of FULL", x.hold(100, 0), BEYOND);
    DOC.says(3, "FULL.");
    due("a ninth", x.hold(5, 5), FULL);
    due("and again", x.hold(5, 5), FULL);
    Twins.refused("a ninth", Made::full, y -> y.hold(5, 5), FULL);
    due("told", x.told(4), 2);
    due("eight", x.count(0), 8);
    due("the first", x.holdIs(0, 0), 0);
    due("the last", x.holdIs(7, 0), 98);
    due("no ninth", x.holdIs(8, 0), BEYOND);
    due("its nearest is the first", x.nearest(), 0);
  }

  private static void holdIs() {
    DOC.says(4, "Of a HOLD: 0 CELL, 1 HARD, 2 PADDED, 3 1 if it is AT HAND, else 0.");
    FirstSteps x = new FirstSteps();
    x.hold(40, 11);
    x.hold(48, 22);
    x.hold(49, 33);
    x.setHold(1, 2, 1);
    x.set(0, 40);
    int[][] dues = {{40, 11, 0, 1}, {48, 22, 1, 1}, {49, 33, 0, 0}};
    for (int hold = 0; hold < 3; hold++) {
      for (int what = 0; what < 4; what++) {
        due(hold + ", what " + what, x.holdIs(hold, what), dues[hold][what]);
      }
    }
    x.set(0, 57);
    int[] behind = {0, 0, 1};
    for (int hold = 0; hold < 3; hold++) {
      due("at hand behind", x.holdIs(hold, 3), behind[hold]);
    }
    DOC.says(4, "BEYOND.");
    range("hold", 0, 3, (y, v) -> y.holdIs(v, 3));
    range("what", 0, 3, (y, v) -> y.holdIs(0, v));
    due("none at all", new FirstSteps().holdIs(0, 0), BEYOND);
  }

  private static void setHold() {
    DOC.says(5, "CELL (what 0), HARD (1), PADDED (2) of a HOLD becomes v: what it was.");
    FirstSteps x = Made.withHolds(20, 30);
    int[][] sets = {{0, 0, 20}, {0, 99, 0}, {0, 30, 99}, {1, 0, 10}, {1, 99, 0}, {2, 0, 0}, {2, 1, 0}, {2, 1, 1}, {2, 0, 1},
        {2, 1, 0}};
    for (int[] s : sets) {
      due("was", x.setHold(0, s[0], s[1]), s[2]);
      due("is", x.holdIs(0, s[0]), s[1]);
    }
    int[][] dues = {{30, 99, 1}, {30, 10, 0}};
    for (int hold = 0; hold < 2; hold++) {
      for (int what = 0; what < 3; what++) {
        due(hold + ", what " + what, x.holdIs(hold, what), dues[hold][what]);
      }
    }
    due("in one cell now", x.gaps(0), 0);
    DOC.says(5, "BEYOND.");
    range("hold", 0, 3, (y, v) -> y.setHold(v, 0, 1));
    range("what", 0, 2, (y, v) -> y.setHold(0, v, 1));
    outside("what 3 is told, not set", Made::rich, new int[] {3}, (y, v) -> y.setHold(0, v, 0), BEYOND);
    range("cell", 0, 99, (y, v) -> y.setHold(1, 0, v));
    range("hard", 0, 99, (y, v) -> y.setHold(1, 1, v));
    range("padded", 0, 1, (y, v) -> y.setHold(1, 2, v));
    due("none at all", new FirstSteps().setHold(0, 0, 0), BEYOND);
  }

  private static void set() {
    DOC.says(6, "CELL (what 0), LEAN (1), REACH (2), SWAY (3), STRENGTH (4), WEEKS (5), LEARNED (6) of THE CHILD becomes v: "
        + "what it was.");
    int[] least = {0, -99, 1, 0, 0, 0, 0};
    int[] most = {99, 99, 30, 9, 50, 60, 9999};
    for (int what = 0; what < 7; what++) {
      FirstSteps x = Made.rich();
      FirstSteps y = Made.rich();
      due("was", x.set(what, least[what]), y.is(what));
      due("was the least", x.set(what, most[what]), least[what]);
      due("was the most", x.set(what, most[what]), most[what]);
      for (int other = 0; other <= 13; other++) {
        due("set " + what + ", is " + other, x.is(other), other == what ? most[what] : y.is(other));
      }
    }
    DOC.says(6, "BEYOND.");
    range("what", 0, 6, (x, v) -> x.set(v, 1));
    for (int i = 0; i < 7; i++) {
      int what = i;
      range("v of " + what, least[what], most[what], (x, v) -> x.set(what, v));
    }
  }

  private static void is() {
    DOC.says(7, "Of THE CHILD: 0 .. 6 as in set(), 7 FALLS, 8 STEPS, 9 BUMPS, 10 YARDS, 11 GOING NOW, 12 LEFT (0 both without "
        + "GOINGS), 13 DAYS.");
    FirstSteps x = new FirstSteps();
    x.days(5);
    x.set(1, 99);
    x.hold(0, 33);
    due("now without", x.is(11), 0);
    due("left without", x.is(12), 0);
    x.set(3, 0);
    x.going(600, 3);
    x.going(300, 50);
    x.tenths(10);
    // three SAT, in the first of which it falls by 33; then seven FREE, two STEPS
    int[] is = {4, 0, 8, 0, 10, 0, 4, 1, 2, 33, 4, 1, 43, 5};
    for (int what = 0; what <= 13; what++) {
      due("is " + what, x.is(what), is[what]);
    }
    DOC.says(7, "BEYOND.");
    range("what", 0, 13, FirstSteps::is);
  }

  private static void nearest() {
    DOC.says(8, "NEAREST.");
    FirstSteps x = Made.withHolds(99, 50, 50, 48);
    due("far off", x.nearest(), 3);
    x.set(0, 49);
    due("three as near", x.nearest(), 1);
    x.set(0, 74);
    due("nearer", x.nearest(), 1);
    x.set(0, 75);
    due("nearer to 99", x.nearest(), 0);
    x.set(2, 1);
    due("not at hand, but nearest", x.nearest(), 0);
    DOC.says(8, "NONE: there are none.");
    Twins.refused("no holds", Made::withoutHolds, FirstSteps::nearest, NONE);
    FirstSteps y = new FirstSteps();
    y.nearest();
    y.nearest();
    due("told", y.told(2), 2);
    y.hold(99, 0);
    due("one", y.nearest(), 0);
  }

  private static void going() {
    DOC.says(9, "A GOING: its number (as the first one comes it is NOW, with all its TENTHS).");
    FirstSteps x = new FirstSteps();
    x.set(1, 50);
    for (int i = 0; i < 8; i++) {
      due("number", x.going(100 * (i % 7) + 11 * i, 60 - i), i);
      due("now", x.is(11), 0);
      due("left", x.is(12), 60);
      due("how many", x.count(1), i + 1);
    }
    due("nothing else", x.is(1), 50);
    FirstSteps one = new FirstSteps();
    one.going(600, 1);
    due("left of one", one.is(12), 1);
    DOC.says(9, "km: 100 times the KIND, and m.");
    for (int i = 0; i < 8; i++) {
      due("kind", x.goingIs(i, 0), i % 7);
      due("m", x.goingIs(i, 1), 11 * i);
      due("tenths", x.goingIs(i, 2), 60 - i);
    }
    FirstSteps y = new FirstSteps();
    int[] kms = {0, 99, 100, 199, 600, 699};
    for (int i = 0; i < kms.length; i++) {
      y.going(kms[i], 1);
      due("kind of " + kms[i], y.goingIs(i, 0), kms[i] / 100);
      due("m of " + kms[i], y.goingIs(i, 1), kms[i] % 100);
    }
    DOC.says(9, "BEYOND.");
    range("km", 0, 699, (z, v) -> z.going(v, 9));
    range("tenths", 1, 60, (z, v) -> z.going(300, v));
    due("ahead of FULL", x.going(700, 1), BEYOND);
    due("ahead of FULL", x.going(300, 0), BEYOND);
    DOC.says(9, "FULL.");
    due("a ninth", x.going(300, 9), FULL);
    due("and again", x.going(300, 9), FULL);
    Twins.refused("a ninth", Made::full, w -> w.going(300, 9), FULL);
    due("told", x.told(4), 2);
    due("eight", x.count(1), 8);
    due("no ninth", x.goingIs(8, 0), BEYOND);
    due("the last", x.goingIs(7, 2), 53);
    due("left", x.is(12), 60);
  }

  private static void goingIs() {
    DOC.says(10, "Of a GOING: 0 KIND, 1 m, 2 TENTHS, 3 SWAYS, 4 STRIDE, 5 PACE, 6 CATCH where THE CHILD is.");
    FirstSteps x = new FirstSteps();
    int[] kms = {0, 101, 202, 303, 499, 505, 606};
    for (int i = 0; i < kms.length; i++) {
      x.going(kms[i], 10 + i);
    }
    x.floor(1, 1, 5);
    x.hold(9, 0);
    // in CELL 0 there is no HOLD AT HAND and no SLOPE; in CELL 10 both
    int[][] there = {{0, 0, 10, 4, 0, 0, 10}, {1, 1, 11, 4, 0, 0, 10}, {2, 2, 12, 4, 1, 3, 10}, {3, 3, 13, 4, 2, 3, 10},
        {4, 99, 14, 7, 2, 3, 10}, {5, 5, 15, 4, 2, 3, 10}, {6, 6, 16, 0, 0, 0, 10}};
    int[][] here = {{0, 0, 10, 4, 0, 0, 10}, {1, 1, 11, 1, 1, 4, 30}, {2, 2, 12, 1, 1, 4, 30}, {3, 3, 13, 4, 2, 3, 10},
        {4, 99, 14, 7, 2, 3, 10}, {5, 5, 15, 4, 2, 3, 0}, {6, 6, 16, 0, 0, 0, 10}};
    for (int going = 0; going < 7; going++) {
      for (int what = 0; what < 7; what++) {
        x.set(0, 0);
        due(going + ", what " + what, x.goingIs(going, what), there[going][what]);
        x.set(0, 10);
        due(going + ", what " + what + " in cell 10", x.goingIs(going, what), here[going][what]);
      }
    }
    DOC.says(10, "BEYOND.");
    range("going", 0, 6, (y, v) -> y.goingIs(v, 3));
    range("what", 0, 6, (y, v) -> y.goingIs(0, v));
    due("none at all", new FirstSteps().goingIs(0, 0), BEYOND);
  }

  private static void as() {
    DOC.says(11, "A GOING as one of a KIND: m.");
    FirstSteps x = new FirstSteps();
    for (int kind = 0; kind < 7; kind++) {
      x.going(100 * kind + 99 * (kind % 2), 1);
      due("as its own", x.as(kind, kind), 99 * (kind % 2));
      due("as a going", x.as(kind, 0), 99 * (kind % 2));
    }
    x.setGoing(2, 1, 57);
    due("under held", x.as(2, 1), 57);
    DOC.says(11, "BEYOND.");
    outside("going", Made::rich, new int[] {MIN, -1, 7, MAX}, (y, v) -> y.as(v, 0), BEYOND);
    outside("kind", Made::rich, new int[] {MIN, -1, 7, MAX}, (y, v) -> y.as(0, v), BEYOND);
    due("none at all", new FirstSteps().as(0, 0), BEYOND);
    DOC.says(11, "KIND: it is not of that KIND, nor of one under it.");
    boolean[][] is = new boolean[7][7];
    int[][] yes = {{0, 0}, {1, 0}, {1, 1}, {2, 0}, {2, 1}, {2, 2}, {3, 0}, {3, 3}, {4, 0}, {4, 3}, {4, 4}, {5, 0}, {5, 3},
        {5, 5}, {6, 0}, {6, 6}};
    for (int[] y : yes) {
      is[y[0]][y[1]] = true;
    }
    int told = 0;
    for (int kind = 0; kind < 7; kind++) {
      for (int as = 0; as < 7; as++) {
        if (!is[kind][as]) {
          due(kind + " as " + as, x.as(kind, as), KIND);
          told++;
        }
      }
    }
    due("told", x.told(5), told);
    Twins.refused("free as carrying", Made::rich, y -> y.as(0, 4), KIND);
    x.setGoing(3, 0, 4);
    due("of another kind now", x.as(3, 4), 99);
  }

  private static void setGoing() {
    DOC.says(12, "KIND (what 0), m (1) of a GOING becomes v: what it was.");
    FirstSteps x = new FirstSteps();
    x.going(305, 9);
    x.going(406, 8);
    x.tenths(4);
    int[][] sets = {{0, 0, 3}, {0, 6, 0}, {0, 4, 6}, {1, 0, 5}, {1, 99, 0}, {1, 99, 99}};
    for (int[] s : sets) {
      due("was", x.setGoing(0, s[0], s[1]), s[2]);
      due("is", x.goingIs(0, s[0]), s[1]);
    }
    int[][] dues = {{4, 99, 9}, {4, 6, 8}};
    for (int going = 0; going < 2; going++) {
      for (int what = 0; what < 3; what++) {
        due(going + ", what " + what, x.goingIs(going, what), dues[going][what]);
      }
    }
    due("now stays", x.is(11), 0);
    due("left stays", x.is(12), 5);
    DOC.says(12, "BEYOND.");
    range("going", 0, 6, (y, v) -> y.setGoing(v, 0, 1));
    range("what", 0, 1, (y, v) -> y.setGoing(0, v, 1));
    range("kind", 0, 6, (y, v) -> y.setGoing(0, 0, v));
    range("m", 0, 99, (y, v) -> y.setGoing(0, 1, v));
    due("none at all", new FirstSteps().setGoing(0, 0, 0), BEYOND);
  }

  /** What LEARNS gives at a fall now. */
  private static long worth(FirstSteps x) {
    x.set(1, 99);
    x.set(6, 0);
    return x.then(1, 6);
  }

  private static void feed() {
    DOC.says(13, "The n lowest bytes (1 .. 8) of a word, the lowest first, come to THE TAPE: how many there are.");
    // 1, +, 2, *, 3, +, 4, 5 from the lowest byte on
    long word = 0x35342b332a322b31L;
    long[] worths = {1, -12, 3, -14, 7, -16, 11, 52};
    for (int n = 1; n <= 8; n++) {
      FirstSteps x = still(0);
      due("how many of " + n, x.feed(word, n), n);
      due("count", x.count(2), n);
      int answer = x.text(0);
      due("their text", answer == 1 ? worth(x) : answer, worths[n - 1]);
    }
    FirstSteps y = still(0);
    due("above the lowest nothing counts", y.feed(-1L << 8 | '7', 1), 1);
    due("behind them", y.feed(0x2a, 1), 2);
    due("behind them", y.feed(word, 3), 5);
    due("a text", y.text(0), 1);
    due("7 * 1 + 2", worth(y), 9);
    due("all bytes", y.feed(-1L, 8), 8);
    due("the first is no text", y.text(0), -10);
    due("a byte of 0", y.feed(0, 1), 1);
    due("nor is that one", y.text(0), -10);
    due("'1' and 8 bits more", y.feed(0x131, 2), 2);
    due("is no digit behind", y.text(0), -11);
    due("'1' with the eighth bit", y.feed('1' + 128, 1), 1);
    due("is no digit", y.text(0), -10);
    due("'f' with the eighth bit", y.feed('f' + 128, 1), 1);
    due("is no name", y.text(0), -10);
    due("'7' and '+' with the eighth bit", y.feed(128 + '+' << 8 | '7', 2), 2);
    due("is no sign", y.text(0), -11);
    due("the text of ahead stays", worth(y), 9);
    DOC.says(13, "BEYOND.");
    range("n", 1, 8, (x, v) -> x.feed(word, v));
    DOC.says(13, "FULL.");
    for (int at = 53; at <= 60; at++) {
      int there = at;
      Supplier<FirstSteps> made = () -> taped(there);
      for (int n = 61 - at; n <= 8; n++) {
        int many = n;
        Twins.refused(n + " more than " + at, made, x -> x.feed(word, many), FULL);
      }
      if (at < 60) {
        due("as many as there may be", taped(at).feed(word, 60 - at), 60);
      }
      due("BEYOND ahead of it", taped(at).feed(word, 9), BEYOND);
    }
  }

  private static FirstSteps taped(int n) {
    FirstSteps x = Made.rich();
    for (int i = x.count(2); i < n; i++) {
      x.feed(i % 2 == 0 || i == n - 1 ? '1' : '+', 1);
    }
    return x;
  }

  private static void text() {
    DOC.says(14, "THE TAPE, which is empty then, is the TEXT of a USE (0, 1), in place of one ahead: 1.");
    FirstSteps x = still(0);
    x.hold(10, 0);
    x.hold(30, 0);
    due("text 0", Made.text(x, 0, "12"), 1);
    due("empty", x.count(2), 0);
    due("worth", worth(x), 12);
    due("not of the other", x.untell(1), 0);
    due("in place of one ahead", Made.text(x, 0, "34"), 1);
    due("worth", worth(x), 34);
    due("text 1", Made.text(x, 1, "g=20"), 1);
    due("empty", x.count(2), 0);
    due("dared", x.gaps(1), 1);
    due("in place of one ahead", Made.text(x, 1, "g=19"), 1);
    due("not dared", x.gaps(1), 0);
    due("the other one stays", worth(x), 34);
    due("in place of a longer one", Made.text(x, 0, "5+5+5+5+5"), 1);
    due("in place of a shorter one", Made.text(x, 0, "5"), 1);
    due("worth", worth(x), 5);
    DOC.says(14, "BEYOND (THE TAPE stays).");
    outside("use", Made::rich, new int[] {MIN, -1, 2, MAX}, FirstSteps::text, BEYOND);
    Made.feed(x, "7+");
    due("no such use", x.text(2), BEYOND);
    due("the tape stays", x.count(2), 2);
    x.feed('1', 1);
    due("it goes on", x.text(0), 1);
    due("worth", worth(x), 8);
    due("an empty tape, no such use", x.text(2), BEYOND);
  }

  private static void textFaults() {
    DOC.says(14, "-10 less the FAULT (no ERROR; the one ahead stays; THE TAPE is empty, too).");
    FirstSteps x = still(0);
    x.hold(10, 0);
    x.hold(30, 0);
    Made.text(x, 0, "44");
    Made.text(x, 1, "1");
    String[] texts = {"", "x", "7x", "7+", "12345", "1=1=1", "((((((", "7)", "!"};
    int[] answers = {-10, -10, -11, -12, -14, -13, -15, -11, -11};
    for (int use = 0; use < 2; use++) {
      for (int i = 0; i < texts.length; i++) {
        due("use " + use + ", " + texts[i], Made.text(x, use, texts[i]), answers[i]);
        due("empty", x.count(2), 0);
        due("the one ahead stays", worth(x), 44);
        due("the one ahead stays", x.gaps(1), 1);
      }
    }
    for (int k = 1; k <= 6; k++) {
      due("told " + k, x.told(k), 0);
    }
    due("not told by one with a fault", new FirstSteps().text(0), -10);
    FirstSteps y = new FirstSteps();
    y.text(0);
    due("none by it", y.untell(0), 0);
    String ones = "1+1+1+1+1+1+1+1+1+1+1+1+1+1+1+1+1+1+1+1+1+1+1+1+1+1+1+1+1+";
    due("the last of sixty", Made.text(y, 0, ones + "1x"), -69);
    due("behind the last of sixty", Made.text(y, 0, ones + "1+"), -70);
    due("sixty", Made.text(y, 0, ones.substring(2) + "1+11"), 1);
  }

  private static void untell() {
    DOC.says(15, "There is no TEXT of a USE any more: 1 if there was, else 0.");
    FirstSteps x = still(0);
    x.hold(10, 0);
    x.hold(30, 0);
    for (int use = 0; use < 2; use++) {
      due("none", x.untell(use), 0);
      due("a text", Made.text(x, use, "90"), 1);
    }
    due("dares", x.gaps(1), 1);
    due("worth", worth(x), 90);
    due("there was", x.untell(0), 1);
    due("without", worth(x), 5);
    due("the other one stays", x.gaps(1), 1);
    due("there was", x.untell(1), 1);
    due("without", x.gaps(1), 0);
    due("no more", x.untell(0), 0);
    due("no more", x.untell(1), 0);
    Made.feed(x, "7");
    due("a text that is on the tape is none", x.untell(0), 0);
    due("the tape stays", x.count(2), 1);
    due("a text of 0 is one", Made.text(x, 0, "*0"), 1);
    due("there was", x.untell(0), 1);
    DOC.says(15, "BEYOND.");
    range("use", 0, 1, FirstSteps::untell);
  }

  private static void tenths() {
    DOC.says(16, "n (1 .. 200) TENTHS go by: FALLS.");
    FirstSteps x = still(6);
    x.floor(0, 1, 9);
    // it falls in each seventh
    int[] ns = {6, 1, 7, 200, 6, 1};
    int[] falls = {0, 1, 2, 30, 31, 31};
    for (int i = 0; i < ns.length; i++) {
      due("falls", x.tenths(ns[i]), falls[i]);
      due("is", x.is(7), falls[i]);
    }
    FirstSteps one = Made.rich();
    FirstSteps all = Made.rich();
    for (int i = 0; i < 200; i++) {
      one.tenths(1);
    }
    all.tenths(200);
    for (int what = 0; what <= 13; what++) {
      due("one by one or at once", one.is(what), all.is(what));
    }
    due("z", one.count(5), all.count(5));
    DOC.says(16, "BEYOND.");
    range("n", 1, 200, FirstSteps::tenths);
    DOC.says(16, "STATE: there are no GOINGS.");
    Twins.refused("no goings", Made::withoutGoings, y -> y.tenths(200), STATE);
    FirstSteps y = new FirstSteps();
    due("BEYOND ahead of it", y.tenths(0), BEYOND);
    due("BEYOND ahead of it", y.tenths(201), BEYOND);
    due("STATE", y.tenths(1), STATE);
    y.going(0, 1);
    due("with one", y.tenths(1), 0);
    due("told", y.told(3), 1);
  }

  private static void days() {
    DOC.says(17, "n (1 .. 60) DAYS go by, none of their TENTHS being done: WEEKS.");
    FirstSteps x = new FirstSteps();
    int[] ns = {1, 5, 1, 6, 1, 60, 60};
    int[] weeks = {0, 0, 1, 1, 2, 10, 19};
    for (int i = 0; i < ns.length; i++) {
      due("weeks", x.days(ns[i]), weeks[i]);
      due("is", x.is(5), weeks[i]);
    }
    due("days", x.is(13), 134);
    FirstSteps y = still(3);
    y.tenths(20);
    y.days(60);
    int[] is = {0, 0, 8, 0, 10, 8, 0, 0, 6, 0, 12, 0, 60, 60};
    for (int what = 0; what <= 13; what++) {
      due("is " + what, y.is(what), is[what]);
    }
    FirstSteps z = still(3);
    z.tenths(20);
    due("no draws", y.count(5), z.count(5));
    DOC.says(17, "BEYOND.");
    range("n", 1, 60, FirstSteps::days);
    DOC.says(17, "STATE: DAYS would be above 9999.");
    for (int left = 0; left <= 2; left++) {
      int days = 9999 - left;
      int one = left + 1;
      Twins.refused(one + " behind " + days, () -> Made.old(days), w -> w.days(one), STATE);
      Twins.refused("60 behind " + days, () -> Made.old(days), w -> w.days(60), STATE);
      due("BEYOND ahead of it", Made.old(days).days(61), BEYOND);
      due("BEYOND ahead of it", Made.old(days).days(0), BEYOND);
      FirstSteps w = Made.old(days);
      if (left > 0) {
        due("as many as there may be", w.days(left), 60);
      }
      due("days", w.is(13), 9999);
    }
    due("60 to the last", Made.old(9939).days(60), 60);
    due("61 would be too many", Made.old(9940).days(60), STATE);
  }

  private static void seed() {
    DOC.says(18, "z becomes v: what it was (any number).");
    FirstSteps x = new FirstSteps();
    int[] seeds = {0, -1, MIN, MAX, BEYOND, NONE, PARTED, 1};
    int was = 1;
    for (int seed : seeds) {
      due("was", x.seed(seed), was);
      due("z", x.count(5), seed);
      was = seed;
    }
    for (int k = 1; k <= 6; k++) {
      due("no error", x.told(k), 0);
    }
    x.going(300, 9);
    x.seed(MIN);
    x.tenths(1);
    due("the draw goes on from it", x.count(5), MIN + 12345);
  }

  private static void then() {
    DOC.says(19, "AHEAD by n: of THE CHILD what (0 .. 13) as in is().");
    int[] ns = {0, 1, 33, 200};
    for (int n : ns) {
      FirstSteps y = Made.rich();
      if (n > 0) {
        y.tenths(n);
      }
      for (int i = 0; i <= 13; i++) {
        int what = i;
        Twins.unchanged("then " + n + " " + what, Made::rich, x -> x.then(n, what), y.is(what));
      }
    }
    FirstSteps x = new FirstSteps();
    x.set(1, 99);
    due("without goings", x.then(200, 1), 99);
    due("without goings", x.then(200, 12), 0);
    due("no error", x.told(3), 0);
    DOC.says(19, "BEYOND.");
    range("n", 0, 200, (y, v) -> y.then(v, 0));
    range("what", 0, 13, (y, v) -> y.then(9, v));
  }

  private static void ways() {
    DOC.says(20, "FALLS' WAYS by n: part 0 above, 1 below the line.");
    FirstSteps x = new FirstSteps();
    x.going(0, 60);
    x.set(1, 82);
    due("3 of 9, above", x.ways(1, 0), 1);
    due("3 of 9, below", x.ways(1, 1), 3);
    x.set(1, 4);
    due("none, above", x.ways(8, 0), 0);
    due("none, below", x.ways(8, 1), 1);
    x.set(1, -99);
    due("all, above", x.ways(8, 0), 1);
    due("all, below", x.ways(8, 1), 1);
    x.set(3, 9);
    x.set(4, 0);
    x.set(1, 0);
    due("of 19 to the 8th, above", x.ways(8, 0), 14068046L);
    due("of 19 to the 8th, below", x.ways(8, 1), 16983563041L);
    Twins.unchanged("nothing changes", Made::rich, y -> y.ways(8, 1), Made.rich().ways(8, 1));
    DOC.says(20, "BEYOND.");
    range("n", 1, 8, (y, v) -> y.ways(v, 1));
    range("part", 0, 1, (y, v) -> y.ways(1, v));
    DOC.says(20, "STATE: there are no GOINGS.");
    Twins.refused("no goings", Made::withoutGoings, y -> y.ways(8, 1), STATE);
    FirstSteps y = new FirstSteps();
    due("BEYOND ahead of it", y.ways(0, 0), BEYOND);
    due("BEYOND ahead of it", y.ways(9, 0), BEYOND);
    due("BEYOND ahead of it", y.ways(1, 2), BEYOND);
    due("BEYOND ahead of it", y.ways(1, -1), BEYOND);
    due("told", y.told(1), 4);
    due("STATE", y.ways(1, 0), STATE);
    due("told", y.told(3), 1);
  }

  private static void way() {
    DOC.says(21, "WAY from a HOLD to another one: 1, 0.");
    // along the room 0, 8, 17, 17, 25: gaps of 8, 9, 8
    FirstSteps x = Made.withHolds(17, 0, 25, 8, 17);
    String[] ways = {"10101", "01010", "10101", "01010", "10101"};
    for (int one = 0; one < 5; one++) {
      for (int other = 0; other < 5; other++) {
        due(one + " to " + other, x.way(one, other), ways[one].charAt(other) - '0');
      }
    }
    x.set(2, 9);
    x.set(0, 99);
    for (int one = 0; one < 5; one++) {
      for (int other = 0; other < 5; other++) {
        due("by a reach of 9, " + one + " to " + other, x.way(one, other), 1);
      }
    }
    Twins.unchanged("nothing changes", Made::rich, y -> y.way(1, 2), 1);
    DOC.says(21, "BEYOND.");
    range("one", 0, 3, (y, v) -> y.way(v, 0));
    range("other", 0, 3, (y, v) -> y.way(0, v));
    due("none at all", new FirstSteps().way(0, 0), BEYOND);
  }

  private static void gaps() {
    DOC.says(22, "GAPS: what 0 how many, 1 how many are DARED, 2 WIDEST.");
    int[][] rows = {{}, {50}, {50, 50}, {0, 99}, {0, 8}, {0, 9}, {99, 91, 82, 82, 72}, {3, 1, 2, 0, 7, 6, 5, 4}};
    int[][] dues = {{0, 0, 0}, {0, 0, 0}, {0, 0, 0}, {1, 0, 99}, {1, 1, 0}, {1, 0, 9}, {3, 1, 10}, {7, 7, 0}};
    for (int i = 0; i < rows.length; i++) {
      FirstSteps x = Made.withHolds(rows[i]);
      for (int what = 0; what < 3; what++) {
        due("row " + i + ", what " + what, x.gaps(what), dues[i][what]);
      }
    }
    Twins.unchanged("nothing changes", Made::rich, y -> y.gaps(0), 2);
    DOC.says(22, "BEYOND.");
    range("what", 0, 2, FirstSteps::gaps);
  }

  /** It falls in the first TENTH, with two HOLDS AT HAND, HOLD 1 the nearer one. */
  private static FirstSteps falling() {
    FirstSteps x = still(0);
    x.hold(5, 90);
    x.hold(4, 50);
    x.set(1, 99);
    return x;
  }

  private static void pad() {
    DOC.says(23, "PAD by n.");
    FirstSteps x = falling();
    due("n 0", x.pad(0), 0);
    due("n 1", x.pad(1), 1);
    due("n 200", x.pad(200), 1);
    x.set(0, 50);
    due("far from all", x.pad(200), 0);
    Twins.unchanged("nothing changes", EdgesOfPromisesTest::falling, y -> y.pad(200), 1);
    DOC.says(23, "BEYOND.");
    range("n", 0, 200, FirstSteps::pad);
    DOC.says(23, "NONE: there are no HOLDS.");
    Twins.refused("no holds", Made::withoutHolds, y -> y.pad(1), NONE);
    FirstSteps y = new FirstSteps();
    due("BEYOND ahead of it", y.pad(-1), BEYOND);
    due("BEYOND ahead of it", y.pad(201), BEYOND);
    due("without goings, too", y.pad(0), NONE);
    y.hold(9, 9);
    due("with one", y.pad(0), 0);
    due("told", y.told(2), 1);
  }

  private static void stand() {
    DOC.says(24, "STAND of a HOLD by n.");
    FirstSteps x = still(1);
    x.hold(99, 0);
    x.hold(99, 0);
    x.set(2, 2);
    int[][] dues = {{0, 0}, {4, 0}, {12, 0}, {16, 1}, {20, 2}, {60, 2}};
    for (int[] d : dues) {
      due("n " + d[0], x.stand(0, d[0]), d[1]);
      due("n " + d[0] + ", of the other", x.stand(1, d[0]), d[1]);
    }
    x.setHold(0, 0, 2);
    due("behind the other", x.stand(1, 60), 7);
    due("nothing is set", x.holdIs(1, 0), 99);
    Twins.unchanged("nothing changes", Made::rich, y -> y.stand(3, 60), Made.rich().stand(3, 60));
    DOC.says(24, "BEYOND.");
    range("hold", 0, 3, (y, v) -> y.stand(v, 9));
    range("n", 0, 60, (y, v) -> y.stand(0, v));
    due("none at all", still(3).stand(0, 0), BEYOND);
  }

  private static void go() {
    DOC.says(25, "GO by n.");
    FirstSteps x = still(0);
    int[][] dues = {{0, 0}, {2, 0}, {3, 3}, {200, 3}};
    for (int[] d : dues) {
      due("n " + d[0], x.go(d[0]), d[1]);
    }
    Twins.unchanged("nothing changes", () -> still(0), y -> y.go(200), 3);
    DOC.says(25, "BEYOND.");
    range("n", 0, 200, FirstSteps::go);
    DOC.says(25, "STATE: there are no GOINGS.");
    Twins.refused("no goings", Made::withoutGoings, y -> y.go(0), STATE);
    FirstSteps y = new FirstSteps();
    due("BEYOND ahead of it", y.go(-1), BEYOND);
    due("BEYOND ahead of it", y.go(201), BEYOND);
    due("STATE", y.go(200), STATE);
    due("told", y.told(3), 1);
    y.going(600, 1);
    due("with one", y.go(0), 0);
  }

  private static void voice() {
    DOC.says(26, "A VOICE of a GOING.");
    FirstSteps x = new FirstSteps();
    x.going(312, 1);
    x.going(413, 1);
    due("leans", x.voice(0, 0, 7), 7);
    due("steps", x.voice(0, 1, 7), 14);
    due("falls", x.voice(0, 2, 7), 6 - 12);
    due("learns", x.voice(0, 3, -25), -2);
    due("leans", x.voice(1, 0, 7), 24);
    due("of any number", x.voice(0, 0, MIN), MIN);
    due("of any number", x.voice(0, 0, MAX), MAX);
    due("no error", x.voice(0, 0, PARTED), PARTED);
    due("not told", x.told(6), 0);
    DOC.says(26, "BEYOND.");
    range("going", 0, 6, (y, v) -> y.voice(v, 0, 1));
    range("voice", 0, 3, (y, v) -> y.voice(2, v, 1));
    due("none at all", new FirstSteps().voice(0, 0, 0), BEYOND);
    DOC.says(26, "PARTED.");
    x.setGoing(0, 1, 0);
    due("parted", x.voice(0, 3, 1), PARTED);
    due("of 0, too", x.voice(0, 3, 0), PARTED);
    due("told", x.told(6), 2);
    due("the other voices go on", x.voice(0, 1, 7), 14);
    x.setGoing(0, 1, 1);
    due("no more", x.voice(0, 3, 1), 1);
    due("told", x.told(6), 2);
    due("z", x.count(5), 1);
  }

  private static void body() {
    DOC.says(27, "THE TRACE's i-th.");
    FirstSteps x = new FirstSteps();
    for (int kind = 0; kind < 7; kind++) {
      x.going(100 * kind + 10 + kind, 1);
    }
    x.voice(4, 2, 9);
    int[] bodies = {51, 40, 12, 11, 50, 10};
    for (int i = 0; i < bodies.length; i++) {
      due("body " + i, x.body(i), bodies[i]);
    }
    DOC.says(27, "NONE: there is none such.");
    outside("i", Made::rich, new int[] {MIN, -1, Made.rich().count(4), 30, 31, MAX}, FirstSteps::body, NONE);
    due("behind the last", x.body(6), NONE);
    x.voice(6, 0, 9);
    due("one alone", x.body(0), 70);
    due("what was behind it is gone", x.body(1), NONE);
    due("no voice so far", new FirstSteps().body(0), NONE);
    due("told", x.told(2), 2);
  }

  private static void sheet() {
    DOC.says(28, "A SHEET has n numbers, all 0, of so many bits (8, 16, 32; 0: it is missing, n doesn't matter): 1.");
    int[] bits = {8, 16, 32};
    for (int b : bits) {
      FirstSteps x = new FirstSteps();
      due("24 numbers", x.sheet(3, b, 24), 1);
      due("all 0", x.off(3), 0);
      for (int i = 0; i < 24; i++) {
        x.put(3, i, 1);
      }
      due("all 1", x.off(3), 24);
      due("anew", x.sheet(3, b, 24), 1);
      due("all 0", x.off(3), 0);
      x.put(3, 5, 1);
      due("fewer", x.sheet(3, b, 5), 1);
      due("and more again", x.sheet(3, b, 24), 1);
      due("all 0", x.off(3), 0);
      due("none", x.sheet(3, b, 0), 1);
      due("no first", x.put(3, 0, 0), BEYOND);
      due("nothing off", x.off(3), 0);
      int[] ns = {MIN, -1, 0, 24, 25, MAX};
      for (int n : ns) {
        due("missing, n " + n, x.sheet(3, 0, n), 1);
        due("is missing", x.off(3), NONE);
        due("is there again", x.sheet(3, b, 1), 1);
      }
      due("the others are missing", x.off(0), NONE);
    }
    DOC.says(28, "BEYOND.");
    range("sheet", 0, 3, (x, v) -> x.sheet(v, 8, 3));
    range("sheet to be missing", 0, 3, (x, v) -> x.sheet(v, 0, 3));
    outside("bits", Made::rich, new int[] {MIN, -8, -1, 1, 7, 9, 15, 17, 24, 31, 33, 64, MAX}, (x, v) -> x.sheet(0, v, 3),
        BEYOND);
    outside("n", Made::rich, new int[] {25, 26, MAX}, (x, v) -> x.sheet(0, 8, v), BEYOND);
    outside("n", Made::rich, new int[] {25, MAX}, (x, v) -> x.sheet(2, 32, v), BEYOND);
    DOC.says(28, "STATE: n is below 0 (ahead of BEYOND of n).");
    outside("n", Made::rich, new int[] {-1, -24, MIN}, (x, v) -> x.sheet(0, 8, v), STATE);
    outside("n", Made::rich, new int[] {-1, MIN}, (x, v) -> x.sheet(1, 16, v), STATE);
    outside("no such sheet", Made::rich, new int[] {-1, MIN}, (x, v) -> x.sheet(4, 16, v), BEYOND);
    outside("no such bits", Made::rich, new int[] {-1, MIN}, (x, v) -> x.sheet(0, 12, v), BEYOND);
  }

  private static void put() {
    DOC.says(29, "Number i of a SHEET becomes v (its lowest bits): 1.");
    int[][] dues = {{8, 0, 0}, {8, 127, 127}, {8, -128, 128}, {8, 128, 128}, {8, 255, 1}, {8, 256, 0}, {8, 257, 1},
        {8, -129, 127}, {8, MIN, 0}, {8, MAX, 1}, {16, 999, 999}, {16, 32767, 1000}, {16, 65536, 0}, {16, 65535, 1},
        {16, 65536 - 700, 700}, {16, 65536 + 700, 700}, {16, MIN, 0}, {16, MAX, 1}, {32, 999, 999}, {32, -999, 999},
        {32, 65536, 1000}, {32, 256, 256}, {32, MIN, 1000}, {32, MAX, 1000}, {32, -1, 1}};
    for (int[] d : dues) {
      FirstSteps x = new FirstSteps();
      x.sheet(1, d[0], 3);
      due("put", x.put(1, 1, d[1]), 1);
      due(d[1] + " by " + d[0] + " bits", x.off(1), d[2]);
    }
    holdsPut();
    FirstSteps y = new FirstSteps();
    y.sheet(0, 8, 24);
    due("the first", y.put(0, 0, 1), 1);
    due("the last", y.put(0, 23, 2), 1);
    due("in place of one ahead", y.put(0, 23, 5), 1);
    due("both", y.off(0), 6);
    DOC.says(29, "BEYOND: no such SHEET.");
    outside("sheet", Made::rich, new int[] {MIN, -1, 4, MAX}, (x, v) -> x.put(v, 0, 1), BEYOND);
    DOC.says(29, "NONE: it is missing.");
    outside("missing", EdgesOfPromisesTest::missing, new int[] {MIN, -1, 0, 24, MAX}, (x, v) -> x.put(2, v, 1), NONE);
    DOC.says(29, "BEYOND: no such number.");
    outside("number", Made::rich, new int[] {MIN, -1, 6, 24, MAX}, (x, v) -> x.put(0, v, 1), BEYOND);
    outside("number", Made::rich, new int[] {-1, 4}, (x, v) -> x.put(2, v, 1), BEYOND);
  }

  /** The lowest bits with their sign: as HOLDS they are what they are. */
  private static void holdsPut() {
    FirstSteps x = new FirstSteps();
    x.sheet(0, 8, 4);
    x.put(0, 0, 256 + 99);
    x.put(0, 1, -256 + 7);
    x.put(0, 2, 255);
    due("up to one below 0", x.holds(0), 1);
    due("cell", x.holdIs(0, 0), 99);
    due("hard", x.holdIs(0, 1), 7);
    x.sheet(0, 16, 2);
    x.put(0, 0, 65536 * 3 + 98);
    x.put(0, 1, 65536 * -2 + 99);
    due("16 bits", x.holds(0), 1);
    due("cell", x.holdIs(1, 0), 98);
    due("hard", x.holdIs(1, 1), 99);
  }

  /** SHEETS 0 and 1 with 1, 2, 3 .. and 11, 12, 13 .. */
  private static FirstSteps rows(int many, int other) {
    FirstSteps x = new FirstSteps();
    x.sheet(0, 8, many);
    x.sheet(1, 8, other);
    for (int i = 0; i < many; i++) {
      x.put(0, i, 1 + i);
    }
    for (int i = 0; i < other; i++) {
      x.put(1, i, 11 + i);
    }
    return x;
  }

  private static void row(FirstSteps x, int sheet, int... numbers) {
    x.sheet(3, 8, 1);
    for (int i = 0; i < numbers.length; i++) {
      x.move(sheet, i, 3, 0, 1);
      due("sheet " + sheet + ", number " + i, x.off(3), numbers[i]);
    }
    due("no more", x.move(sheet, numbers.length, 3, 0, 1), BEYOND);
  }

  private static void move() {
    DOC.says(30, "n numbers of a SHEET, from number i on, come to another one (or the same), from its number j on, as they all "
        + "were: n.");
    FirstSteps x = rows(5, 4);
    due("all to another", x.move(1, 0, 0, 1, 4), 4);
    row(x, 0, 1, 11, 12, 13, 14);
    row(x, 1, 11, 12, 13, 14);
    x = rows(5, 4);
    due("to the last", x.move(1, 3, 0, 4, 1), 1);
    row(x, 0, 1, 2, 3, 4, 14);
    x = rows(5, 4);
    due("forward in the same", x.move(0, 0, 0, 1, 4), 4);
    row(x, 0, 1, 1, 2, 3, 4);
    x = rows(5, 4);
    due("backward in the same", x.move(0, 1, 0, 0, 4), 4);
    row(x, 0, 2, 3, 4, 5, 5);
    x = rows(5, 4);
    due("to where they are", x.move(0, 0, 0, 0, 5), 5);
    row(x, 0, 1, 2, 3, 4, 5);
    due("none", x.move(0, 0, 1, 0, 0), 0);
    due("none, from the end", x.move(0, 5, 1, 4, 0), 0);
    row(x, 0, 1, 2, 3, 4, 5);
    row(x, 1, 11, 12, 13, 14);
    x = rows(24, 24);
    due("all of 24", x.move(1, 0, 0, 0, 24), 24);
    due("all of 24 now", x.off(0), (11 + 34) * 12);
    x.sheet(0, 8, 0);
    due("none of none", x.move(0, 0, 0, 0, 0), 0);
    x.sheet(0, 32, 2);
    x.sheet(1, 32, 2);
    x.put(0, 0, 700);
    due("of 32 bits", x.move(0, 0, 1, 1, 1), 1);
    due("whole", x.off(1), 700);
  }

  private static void moveRefused() {
    DOC.says(30, "BEYOND: no such SHEET.");
    outside("sheet", Made::rich, new int[] {MIN, -1, 4, MAX}, (x, v) -> x.move(v, 0, 0, 0, 1), BEYOND);
    outside("other", Made::rich, new int[] {MIN, -1, 4, MAX}, (x, v) -> x.move(0, 0, v, 0, 1), BEYOND);
    outside("missing and no such", EdgesOfPromisesTest::missing, new int[] {-1, 4}, (x, v) -> x.move(2, 0, v, 0, 1), BEYOND);
    outside("no such and missing", EdgesOfPromisesTest::missing, new int[] {-1, 4}, (x, v) -> x.move(v, 0, 2, 0, 1), BEYOND);
    DOC.says(30, "NONE: one is missing.");
    outside("to a missing one", EdgesOfPromisesTest::missing, new int[] {0, 1, 3}, (x, v) -> x.move(v, 0, 2, 0, 1), NONE);
    outside("from a missing one", EdgesOfPromisesTest::missing, new int[] {0, 1, 2, 3}, (x, v) -> x.move(2, 0, v, 0, 1), NONE);
    outside("ahead of n", EdgesOfPromisesTest::missing, new int[] {-1, 0, MAX}, (x, v) -> x.move(2, 0, 0, 0, v), NONE);
    DOC.says(30, "KIND: they are of unlike bits.");
    outside("8 bits and more", Made::rich, new int[] {1, 2}, (x, v) -> x.move(0, 0, v, 0, 1), KIND);
    outside("more and 8 bits", Made::rich, new int[] {1, 2}, (x, v) -> x.move(v, 0, 3, 0, 1), KIND);
    outside("ahead of n", Made::rich, new int[] {-1, 0, MAX}, (x, v) -> x.move(1, 0, 2, 0, v), KIND);
    DOC.says(30, "BEYOND: n, i, or j is below 0, or they don't stand there.");
    // SHEET 0 has six numbers, SHEET 3, of as many bits, three
    outside("n", Made::rich, new int[] {MIN, -1, 4, 6, 7, MAX}, (x, v) -> x.move(0, 0, 3, 0, v), BEYOND);
    outside("n from 5", Made::rich, new int[] {2, 3}, (x, v) -> x.move(0, 5, 3, 0, v), BEYOND);
    outside("n to 2", Made::rich, new int[] {2, 3}, (x, v) -> x.move(0, 0, 3, 2, v), BEYOND);
    outside("n in the same", Made::rich, new int[] {-1, 5, 6, MAX}, (x, v) -> x.move(0, 1, 0, 2, v), BEYOND);
    outside("i", Made::rich, new int[] {MIN, -1, 6, MAX}, (x, v) -> x.move(0, v, 3, 0, 1), BEYOND);
    outside("i of three", Made::rich, new int[] {-3, -1, 4, 5, 6, MAX - 1}, (x, v) -> x.move(0, v, 3, 0, 3), BEYOND);
    outside("i of none", Made::rich, new int[] {MIN, -1, 7, MAX}, (x, v) -> x.move(0, v, 3, 0, 0), BEYOND);
    outside("j", Made::rich, new int[] {MIN, -1, 3, MAX}, (x, v) -> x.move(0, 0, 3, v, 1), BEYOND);
    outside("j of two", Made::rich, new int[] {-2, -1, 2, 3, MAX - 1}, (x, v) -> x.move(0, 0, 3, v, 2), BEYOND);
    outside("j of none", Made::rich, new int[] {MIN, -1, 4, MAX}, (x, v) -> x.move(0, 0, 3, v, 0), BEYOND);
  }

  private static FirstSteps sheetOf(int bits, int... numbers) {
    FirstSteps x = new FirstSteps();
    x.sheet(0, bits, numbers.length);
    for (int i = 0; i < numbers.length; i++) {
      x.put(0, i, numbers[i]);
    }
    return x;
  }

  private static void holds() {
    DOC.says(31, "Numbers of a SHEET, two by two, are HOLDS (CELL, HARD): how many came, up to the first that hold() would "
        + "refuse, or that isn't whole (no ERROR then).");
    int[][] rows = {{}, {5}, {5, 6}, {5, 6, 7}, {0, 0, 99, 99}, {5, 6, 100, 1, 5, 6}, {5, 6, 1, 100, 5, 6}, {-1, 6, 5, 6},
        {5, -1, 5, 6}, {100, 0}, {0, 100}, {MIN, 0}, {0, MAX}, {1, 1, 1, 1, 1, 1}};
    int[] came = {0, 0, 1, 1, 2, 1, 1, 0, 0, 0, 0, 0, 0, 3};
    for (int i = 0; i < rows.length; i++) {
      FirstSteps x = sheetOf(32, rows[i]);
      due("row " + i, x.holds(0), came[i]);
      due("how many", x.count(0), came[i]);
      for (int hold = 0; hold < came[i]; hold++) {
        due("cell", x.holdIs(hold, 0), rows[i][2 * hold]);
        due("hard", x.holdIs(hold, 1), rows[i][2 * hold + 1]);
        due("padded", x.holdIs(hold, 2), 0);
      }
      due("no error", x.told(1) + x.told(2) + x.told(4), 0);
    }
    FirstSteps y = sheetOf(8, 1, 1, 2, 2, 3, 3, 4, 4, 5, 5, 6, 6, 7, 7, 8, 8, 9, 9, 10, 10, 11, 11, 12, 12);
    due("eight of twelve", y.holds(0), 8);
    due("the last", y.holdIs(7, 0), 8);
    due("none more", y.holds(0), 0);
    due("no FULL", y.told(4), 0);
    FirstSteps z = sheetOf(8, 1, 1, 2, 2, 3, 3);
    for (int i = 0; i < 6; i++) {
      z.hold(50, 50);
    }
    due("two of three behind six", z.holds(0), 2);
    due("numbers go on", z.holdIs(7, 0), 2);
    due("the sheet stays", z.off(0), 12);
    DOC.says(31, "BEYOND.");
    outside("sheet", Made::rich, new int[] {MIN, -1, 4, MAX}, FirstSteps::holds, BEYOND);
    DOC.says(31, "NONE.");
    Twins.refused("missing", EdgesOfPromisesTest::missing, x -> x.holds(2), NONE);
  }

  private static void off() {
    DOC.says(32, "OFF of a FILM.");
    FirstSteps x = sheetOf(32, 0, 0, 2, 2, 2, 4, 5);
    x.set(3, 0);
    x.going(300, 60);
    due("one off by one", x.off(0), 1);
    x.put(0, 0, 1001);
    due("held", x.off(0), 1001);
    x.put(0, 2, MIN);
    x.put(0, 3, MAX);
    due("held, each", x.off(0), 3001);
    due("an empty one", sheetOf(8).off(0), 0);
    due("without goings", sheetOf(8, 3, -4).off(0), 7);
    Twins.unchanged("nothing changes", Made::rich, y -> y.off(0), Made.rich().off(0));
    DOC.says(32, "BEYOND.");
    range("sheet", 0, 3, FirstSteps::off);
    DOC.says(32, "NONE.");
    Twins.refused("missing", EdgesOfPromisesTest::missing, y -> y.off(2), NONE);
  }

  private static void guess() {
    DOC.says(33, "GUESS by a FILM.");
    due("an empty one", sheetOf(8).guess(0), 0);
    due("without goings", sheetOf(8, 3, -4).guess(0), 0);
    FirstSteps x = sheetOf(8, 0, 0, 2, 2, 2, 2);
    x.set(3, 0);
    x.going(300, 60);
    x.set(1, 57);
    int[][] guesses = {{13, 60}, {14, 56}, {12, 0}, {28, 0}, {27, 4}};
    for (int[] g : guesses) {
      x.set(4, g[0]);
      due("strength " + g[0], x.guess(0), g[1]);
    }
    due("weeks stay", x.is(5), 0);
    Twins.unchanged("nothing changes", Made::rich, y -> y.guess(0), Made.rich().guess(0));
    DOC.says(33, "BEYOND.");
    range("sheet", 0, 3, FirstSteps::guess);
    DOC.says(33, "NONE.");
    Twins.refused("missing", EdgesOfPromisesTest::missing, y -> y.guess(2), NONE);
  }

  private static void image() {
    DOC.says(34, "All (but SHEETS, THE TRACE, what told() tells, and how often this was done) is kept as an IMAGE, in place of "
        + "one ahead: how often that was done.");
    FirstSteps x = Made.rich();
    due("behind one", x.image(), 2);
    x.days(1);
    due("in place of it", x.image(), 3);
    x.days(1);
    due("the days of the last", x.restore(), 8);
    due("how often isn't kept", x.image(), 4);
    x.sheet(0, 8, 1);
    x.put(0, 0, 33);
    x.voice(5, 0, 1);
    int told = x.told(1);
    x.is(-1);
    x.set(0, 0);
    x.setGoing(0, 0, 6);
    x.setGoing(1, 0, 6);
    x.image();
    x.sheet(1, 0, 0);
    x.restore();
    due("no sheet is kept", x.off(0), 33);
    due("nor missing ones", x.off(1), NONE);
    due("nor the trace", x.count(4), 1);
    due("nor what is told", x.told(1), told + 1);
    FirstSteps y = new FirstSteps();
    for (int i = 1; i <= 512; i++) {
      due("how often, up to the last call that is promised", y.image(), i);
    }
  }

  private static void restore() {
    DOC.says(35, "All is as the IMAGE has it, which stays: DAYS.");
    Twins.unchanged("all that is changed behind it", EdgesOfPromisesTest::pictured, EdgesOfPromisesTest::changedAndRestored, 7);
    Twins.unchanged("it stays", EdgesOfPromisesTest::restored, FirstSteps::restore, 3);
    // what rich() did behind its IMAGE is as never done
    FirstSteps x = Made.rich();
    due("days", x.restore(), 3);
    due("days", x.is(13), 3);
    due("waits", x.count(3), 2);
    due("bytes", x.count(2), 3);
    due("cell", x.is(0), 0);
    due("lean", x.is(1), 0);
    due("slope", x.floor(1, 1, 5), 0);
    due("hard", x.setHold(0, 1, 9), 40);
    due("m", x.setGoing(3, 1, 9), 7);
    due("z", x.seed(5), 1);
    due("a text", x.untell(0), 1);
    due("it stays", x.restore(), 3);
    due("slope", x.floor(1, 1, 5), 0);
    due("hard", x.setHold(0, 1, 9), 40);
    due("m", x.setGoing(3, 1, 9), 7);
    due("z", x.seed(5), 1);
    due("its waiting numbers", x.check(), 0);
    x.set(1, 99);
    due("its text", x.then(1, 6) - x.is(6), 1 + 9);
    Made.feed(x, "*2");
    due("its tape, 7+w and what is fed now", x.text(0), 1);
    x.set(5, 40);
    due("its worth", worth(x), 7 + 40 * 2);
    due("its holds", x.count(0), 4);
    due("its goings", x.count(1), 7);
    restoreToNothing();
    DOC.says(35, "NONE: there is none.");
    Twins.refused("none", Made::withoutImage, FirstSteps::restore, NONE);
    FirstSteps y = new FirstSteps();
    y.days(2);
    due("none", y.restore(), NONE);
    due("days", y.is(13), 2);
    y.image();
    due("one", y.restore(), 2);
  }

  /** The IMAGE has no HOLDS, GOINGS, TEXTS, bytes, numbers that wait; what comes behind it comes as at first. */
  private static void restoreToNothing() {
    FirstSteps x = new FirstSteps();
    due("an image of nothing", x.image(), 1);
    x.hold(3, 50);
    x.setHold(0, 2, 1);
    x.going(600, 2);
    x.going(600, 5);
    Made.text(x, 0, "70");
    Made.text(x, 1, "1");
    Made.feed(x, "1+");
    x.tell(0);
    x.days(5);
    x.tenths(3);
    due("now", x.is(11), 1);
    due("left", x.is(12), 4);
    due("days", x.restore(), 0);
    int[] is = {0, 0, 8, 4, 10, 0, 0, 0, 0, 0, 0, 0, 0, 0};
    for (int what = 0; what <= 13; what++) {
      due("is " + what, x.is(what), is[what]);
    }
    int[] count = {0, 0, 0, 0, 0, 1};
    for (int what = 0; what <= 5; what++) {
      due("count " + what, x.count(what), count[what]);
    }
    due("no hold", x.holdIs(0, 2), BEYOND);
    due("no going", x.goingIs(0, 0), BEYOND);
    due("no tenths", x.tenths(1), STATE);
    due("no texts", x.untell(0) + x.untell(1), 0);
    due("a hold", x.hold(3, 50), 0);
    due("not padded", x.holdIs(0, 2), 0);
    due("a going", x.going(600, 7), 0);
    due("now", x.is(11), 0);
    due("left", x.is(12), 7);
    due("days of a week", x.days(6), 0);
    due("the seventh", x.days(1), 1);
    due("worth", worth(x), 3);
  }

  private static FirstSteps pictured() {
    FirstSteps x = Made.rich();
    x.image();
    return x;
  }

  private static FirstSteps restored() {
    FirstSteps x = Made.rich();
    x.restore();
    return x;
  }

  /** Changes all that an IMAGE keeps, without an ERROR, and nothing that it doesn't. */
  private static long changedAndRestored(FirstSteps x) {
    for (int floor = 0; floor < 10; floor++) {
      x.floor(floor, 0, 7);
      x.floor(floor, 1, -7);
    }
    for (int i = 0; i < 4; i++) {
      x.setHold(i, 0, 60 + i);
      x.setHold(i, 1, 60 + i);
      x.setHold(i, 2, 1 - i % 2);
      x.hold(70 + i, i);
    }
    for (int i = 0; i < 7; i++) {
      x.setGoing(i, 0, 6 - i);
      x.setGoing(i, 1, 60 + i);
      x.set(i, 1 + i);
    }
    x.going(688, 60);
    x.text(0);
    x.untell(1);
    Made.feed(x, "1+");
    x.check();
    x.tell(9);
    x.days(8);
    x.tenths(100);
    x.seed(77);
    return x.restore();
  }

  private static void tell() {
    DOC.says(36, "One more number waits: how many.");
    FirstSteps x = still(0);
    int[] numbers = {0, 0, MIN, MAX, -1, BEYOND, 7};
    for (int i = 0; i < numbers.length; i++) {
      due("how many", x.tell(numbers[i]), i + 1);
      due("count", x.count(3), i + 1);
    }
    due("the first two are so", x.check(), 3);
    due("one again", x.tell(0), 1);
    DOC.says(36, "FULL: 24 wait.");
    x.check();
    for (int i = 1; i <= 24; i++) {
      due("how many", x.tell(0), i);
    }
    due("a twenty-fifth", x.tell(1), FULL);
    due("and again", x.tell(0), FULL);
    due("24 wait", x.count(3), 24);
    due("told", x.told(4), 2);
    due("all are so", x.check(), 0);
    due("one again", x.tell(0), 1);
    Twins.refused("a twenty-fifth", Made::full, y -> y.tell(99), FULL);
  }

  private static void check() {
    DOC.says(37, "The numbers that wait (none do then) are FALLS behind TENTHS 1, 2, .. AHEAD: 0; else 1 and the place (from 0) "
        + "of the first that isn't so.");
    FirstSteps x = still(6);
    x.floor(0, 1, 9);
    due("none wait", x.check(), 0);
    for (int wrong = 0; wrong <= 24; wrong++) {
      for (int i = 0; i < 24; i++) {
        // it falls in each seventh
        x.tell((i + 1) / 7 + (i == wrong || i == wrong + 2 ? 1 : 0));
      }
      due("wrong " + wrong, x.check(), wrong == 24 ? 0 : wrong + 1);
      due("none wait", x.count(3), 0);
      due("nothing goes by", x.is(12), 60);
      if (wrong % 6 == 5) {
        x = still(6);
        x.floor(0, 1, 9);
      }
    }
    FirstSteps y = still(6);
    y.floor(0, 1, 9);
    y.tenths(7);
    y.tell(1);
    due("those so far, too", y.check(), 0);
    y.tell(0);
    due("not those ahead alone", y.check(), 1);
    due("no draws", y.count(5), steadyDraws(7));
    FirstSteps z = new FirstSteps();
    z.tell(0);
    z.tell(0);
    z.tell(-1);
    due("without goings", z.check(), 3);
    due("no error", z.told(3), 0);
  }

  private static int steadyDraws(int n) {
    int z = 1;
    for (int i = 0; i < n; i++) {
      z = z * 1103515245 + 12345;
    }
    return z;
  }

  private static void count() {
    DOC.says(38, "0 HOLDS, 1 GOINGS, 2 bytes of THE TAPE, 3 numbers that wait, 4 BODIES in THE TRACE, 5 z (any number).");
    FirstSteps x = new FirstSteps();
    for (int what = 0; what < 5; what++) {
      due("count " + what, x.count(what), 0);
    }
    due("z", x.count(5), 1);
    for (int i = 0; i < 9; i++) {
      x.hold(i, i);
      x.going(400 + i, 1);
    }
    for (int i = 0; i < 61; i++) {
      x.feed('1', 1);
    }
    for (int i = 0; i < 25; i++) {
      x.tell(i);
    }
    x.voice(7, 2, 0);
    x.seed(NONE);
    int[] most = {8, 8, 60, 24, 6, NONE};
    for (int what = 0; what < 6; what++) {
      due("count " + what, x.count(what), most[what]);
    }
    due("z is no error", x.told(2), 0);
    DOC.says(38, "BEYOND.");
    range("what", 0, 5, FirstSteps::count);
  }

  private static void told() {
    DOC.says(39, "How many acts have answered an ERROR LOW - k (k 1 .. 6); BEYOND: another k (counted, too).");
    FirstSteps x = new FirstSteps();
    for (int k = 1; k <= 6; k++) {
      due("none", x.told(k), 0);
    }
    x.going(0, 1);
    for (int i = 1; i <= 3; i++) {
      x.is(-1);
      x.nearest();
      x.sheet(0, 8, -1);
      x.as(0, 6);
      x.voice(0, 3, 1);
      int[] told = {i, i, i, 0, i, i};
      for (int k = 1; k <= 6; k++) {
        due("told " + k, x.told(k), told[k - 1]);
      }
    }
    int[] others = {MIN, -1, 0, 7, MAX, BEYOND};
    for (int i = 0; i < others.length; i++) {
      due("another k", x.told(others[i]), BEYOND);
      due("counted, too", x.told(1), 4 + i);
    }
    due("a long, too", x.ways(9, 9), BEYOND);
    due("counted", x.told(1), 10);
    due("the others as they were", x.told(2) + x.told(3) + x.told(4) + x.told(5) + x.told(6), 12);
    outside("k", Made::rich, new int[] {MIN, 0, 7, MAX}, FirstSteps::told, BEYOND);
  }
}

import java.util.Random;

/** Runs of calls by seeds, each answer held against the one of the document told once more (support/Slow.java). */
public final class AgainstSlowTest {
  private static final int RUNS = 400;
  private static final int CALLS = 512;
  private static final int ROOMS = 400;
  private static Random random;
  private static FirstSteps x;
  private static Slow y;
  private static int run;
  private static int call;

  private AgainstSlowTest() {}

  public static void main(String[] args) {
    for (run = 1; run <= RUNS; run++) {
      random = new Random(run);
      x = new FirstSteps();
      y = new Slow();
      for (call = 0; call < CALLS; call++) {
        next();
      }
    }
    for (run = 1; run <= ROOMS; run++) {
      random = new Random(-run);
      x = new FirstSteps();
      y = new Slow();
      call = 0;
      fallOnSlopes();
      parted();
    }
    Due.end();
  }

  /** FALLS' WAYS where it nearly falls, close to where FLOORS meet, HOLDS come AT HAND, GOINGS change. */
  private static void fallOnSlopes() {
    int sway = random.nextInt(3);
    int[][] sets = {{0, random.nextInt(40)}, {2, 1 + random.nextInt(4)}, {3, sway}, {4, random.nextInt(20)},
        {6, 100 * random.nextInt(20)}};
    for (int[] set : sets) {
      due("set", x.set(set[0], set[1]), y.set(set[0], set[1]), set[0], set[1]);
    }
    for (int floor = 0; floor < 5; floor++) {
      int slip = random.nextInt(10);
      int slope = random.nextInt(19) - 9;
      due("floor", x.floor(floor, 0, slip), y.floor(floor, 0, slip), floor, 0, slip);
      due("floor", x.floor(floor, 1, slope), y.floor(floor, 1, slope), floor, 1, slope);
    }
    for (int i = random.nextInt(4); i > 0; i--) {
      int cell = random.nextInt(45);
      due("hold", x.hold(cell, 9), y.hold(cell, 9), cell, 9);
    }
    for (int i = 1 + random.nextInt(3); i > 0; i--) {
      int km = 100 * random.nextInt(7) + random.nextInt(30);
      int tenths = 1 + random.nextInt(random.nextBoolean() ? 4 : 60);
      due("going", x.going(km, tenths), y.going(km, tenths), km, tenths);
    }
    int before = 1 + random.nextInt(9);
    due("tenths", x.tenths(before), y.tenths(before), before);
    for (int i = 0; i < 6; i++) {
      int lean = (random.nextBoolean() ? 1 : -1) * (30 + random.nextInt(65));
      due("set", x.set(1, lean), y.set(1, lean), 1, lean);
      int n = 1 + random.nextInt(sway == 2 ? 5 : 6);
      due("ways", x.ways(n, 0), y.ways(n, 0), n, 0);
      due("ways", x.ways(n, 1), y.ways(n, 1), n, 1);
    }
  }

  /** VOICES of GOINGS whose m is their number, and THE TRACE behind them. */
  private static void parted() {
    int many = (int) y.count(1);
    for (int i = 0; i < 12; i++) {
      int going = random.nextInt(many);
      int m = random.nextInt(3) == 0 ? random.nextInt(9) : going;
      int voice = random.nextInt(4);
      due("setGoing", x.setGoing(going, 1, m), y.setGoing(going, 1, m), going, 1, m);
      due("voice", x.voice(going, voice, i), y.voice(going, voice, i), going, voice, i);
      due("count", x.count(4), y.count(4), 4);
      for (int j = 0; j <= y.count(4); j++) {
        due("body", x.body(j), y.body(j), j);
      }
    }
    due("told", x.told(6), y.told(6), 6);
  }

  private static void due(String name, long got, long want, long... args) {
    Due.part("run " + run + ", call " + call);
    Due.due(name + java.util.Arrays.toString(args), got, want);
  }

  /** Mostly within, sometimes just outside, seldom anything. */
  private static int near(int least, int most) {
    int r = random.nextInt(60);
    if (r == 0) {
      return least - 1;
    }
    if (r == 1) {
      return most + 1;
    }
    if (r == 2) {
      int[] wild = {Integer.MIN_VALUE, Integer.MAX_VALUE, random.nextInt(), -1, 0};
      return wild[random.nextInt(wild.length)];
    }
    if (r < 10) {
      return random.nextBoolean() ? least : most;
    }
    return least + random.nextInt(most - least + 1);
  }

  private static int hold() {
    return near(0, Math.max(0, (int) y.count(0) - 1));
  }

  private static int going() {
    return near(0, Math.max(0, (int) y.count(1) - 1));
  }

  private static void next() {
    // Some runs come to many HOLDS and GOINGS early, others never to any.
    int what = random.nextInt(run % 10 == 0 ? 30 : 42);
    int a;
    int b;
    int c;
    switch (what) {
      case 0: case 30:
        a = near(0, 9); b = near(0, 1); c = b == 1 ? near(-9, 9) : near(0, 9);
        due("floor", x.floor(a, b, c), y.floor(a, b, c), a, b, c);
        break;
      case 31: case 32:
        a = near(0, 99); b = near(0, 99);
        due("hold", x.hold(a, b), y.hold(a, b), a, b);
        break;
      case 1:
        a = hold(); b = near(0, 3);
        due("holdIs", x.holdIs(a, b), y.holdIs(a, b), a, b);
        break;
      case 2:
        a = hold(); b = near(0, 2); c = near(0, b == 2 ? 1 : 99);
        due("setHold", x.setHold(a, b, c), y.setHold(a, b, c), a, b, c);
        break;
      case 3: case 33:
        set();
        break;
      case 4: case 34:
        a = near(0, 13);
        due("is", x.is(a), y.is(a), a);
        break;
      case 5:
        due("nearest", x.nearest(), y.nearest());
        break;
      case 35: case 36:
        a = near(0, 699); b = near(1, 60);
        due("going", x.going(a, b), y.going(a, b), a, b);
        break;
      case 6:
        a = going(); b = near(0, 6);
        due("goingIs", x.goingIs(a, b), y.goingIs(a, b), a, b);
        break;
      case 7:
        a = going(); b = near(0, 6);
        due("as", x.as(a, b), y.as(a, b), a, b);
        break;
      case 8:
        a = going(); b = near(0, 1); c = near(0, b == 0 ? 6 : 99);
        due("setGoing", x.setGoing(a, b, c), y.setGoing(a, b, c), a, b, c);
        break;
      case 9: case 37: case 38:
        text();
        break;
      case 10:
        if (random.nextInt(4) == 0) {
          a = near(0, 1);
          due("untell", x.untell(a), y.untell(a), a);
        }
        break;
      case 11: case 12: case 39:
        a = random.nextInt(3) == 0 ? near(1, 200) : near(1, 30);
        due("tenths", x.tenths(a), y.tenths(a), a);
        break;
      case 13:
        a = near(1, 60);
        due("days", x.days(a), y.days(a), a);
        break;
      case 14:
        a = random.nextInt();
        due("seed", x.seed(a), y.seed(a), a);
        break;
      case 15: case 40:
        a = near(0, 200); b = near(0, 13);
        due("then", x.then(a, b), y.then(a, b), a, b);
        break;
      case 16: case 41:
        ways();
        break;
      case 17:
        a = hold(); b = hold();
        due("way", x.way(a, b), y.way(a, b), a, b);
        break;
      default:
        nextOther(what);
    }
  }

  private static void nextOther(int what) {
    int a;
    int b;
    int c;
    switch (what) {
      case 18:
        a = near(0, 2);
        due("gaps", x.gaps(a), y.gaps(a), a);
        break;
      case 19:
        a = near(0, 200);
        due("pad", x.pad(a), y.pad(a), a);
        break;
      case 20:
        a = hold(); b = near(0, 60);
        due("stand", x.stand(a, b), y.stand(a, b), a, b);
        break;
      case 21:
        a = near(0, 200);
        due("go", x.go(a), y.go(a), a);
        break;
      case 22:
        a = going(); b = near(0, 3); c = random.nextBoolean() ? near(-20, 20) : random.nextInt();
        due("voice", x.voice(a, b, c), y.voice(a, b, c), a, b, c);
        break;
      case 23:
        a = near(0, 6);
        due("body", x.body(a), y.body(a), a);
        break;
      case 24: case 25:
        sheets();
        break;
      case 26:
        a = near(0, 3);
        if (random.nextInt(3) == 0) {
          due("off", x.off(a), y.off(a), a);
        } else {
          due("guess", x.guess(a), y.guess(a), a);
        }
        break;
      case 27:
        if (random.nextBoolean()) {
          due("image", x.image(), y.image());
        } else if (random.nextInt(3) == 0) {
          due("restore", x.restore(), y.restore());
        }
        break;
      case 28:
        tellAndCheck();
        break;
      default:
        a = near(0, 5); b = near(1, 6);
        due("count", x.count(a), y.count(a), a);
        due("told", x.told(b), y.told(b), b);
    }
  }

  private static void set() {
    int[][] bounds = {{0, 99}, {-99, 99}, {1, 30}, {0, 9}, {0, 50}, {0, 60}, {0, 9999}};
    int what = near(0, 6);
    int[] bound = what >= 0 && what <= 6 ? bounds[what] : bounds[0];
    int v = near(bound[0], bound[1]);
    due("set", x.set(what, v), y.set(what, v), what, v);
  }

  private static void ways() {
    int n = near(1, 8);
    int part = near(0, 1);
    // Each row by itself: few enough of them.
    double rows = 1;
    for (int i = 0; i < n && i < 8; i++) {
      rows *= 2 * 9 + 1;
    }
    int sway = y.s.sway;
    boolean carries = y.s.goings.stream().anyMatch(g -> g.kind == 4);
    double most = Math.pow(2 * (carries ? Math.min(9, sway + 3) : sway) + 1, Math.max(0, Math.min(n, 8)));
    if (most <= 4000 || n > 8) {
      due("ways", x.ways(n, part), y.ways(n, part), n, part);
    } else {
      due("set", x.set(3, 1), y.set(3, 1), 3, 1);
    }
  }

  private static void text() {
    int use = near(0, 1);
    String text = textT(use == 1 ? "grwl" : "fswlh", 3);
    if (random.nextInt(3) == 0 && !text.isEmpty()) {
      int place = random.nextInt(text.length());
      String any = "fswlhgr0123456789+-*/%|&<=>!() x\u00e9";
      String other = random.nextInt(4) == 0 ? "" : "" + any.charAt(random.nextInt(any.length()));
      text = text.substring(0, place) + other + text.substring(place + random.nextInt(2));
    }
    if (random.nextInt(8) == 0) {
      text = text.substring(0, random.nextInt(text.length() + 1));
    }
    for (int i = 0; i < text.length(); i += 8) {
      long word = random.nextLong();
      int n = Math.min(8, text.length() - i);
      for (int j = 0; j < n; j++) {
        word = word & ~(255L << (8 * j)) | (long) text.charAt(i + j) << (8 * j);
      }
      int told = random.nextInt(60) == 0 ? near(1, 8) : n;
      due("feed", x.feed(word, told), y.feed(word, told), word, told);
    }
    if (random.nextInt(10) != 0) {
      due("text of " + text, x.text(use), y.text(use), use);
    }
  }

  private static String textT(String names, int depth) {
    return joined(names, depth, 0);
  }

  private static String joined(String names, int depth, int level) {
    String[] signs = {"|", "&", "<=>", "+-", "*/%"};
    if (level == signs.length) {
      return operand(names, depth);
    }
    StringBuilder text = new StringBuilder(joined(names, depth, level + 1));
    int more = random.nextInt(5) == 0 ? 1 + random.nextInt(2) : 0;
    for (int i = 0; i < (level == 2 ? Math.min(1, more) : more); i++) {
      text.append(signs[level].charAt(random.nextInt(signs[level].length())));
      text.append(joined(names, depth, level + 1));
    }
    return text.toString();
  }

  private static String operand(String names, int depth) {
    int r = random.nextInt(7);
    if (depth > -3 && r == 0) {
      return "!" + operand(names, depth - 1);
    }
    if (depth > -3 && r == 1) {
      return "(" + joined(names, depth - 1, 0) + ")";
    }
    if (r < 4) {
      int[] bound = {10, 10, 100, 1000, 10000, 12000};
      return "" + random.nextInt(bound[random.nextInt(bound.length)]);
    }
    return "" + names.charAt(random.nextInt(names.length()));
  }

  private static void sheets() {
    int[] bits = {0, 8, 16, 32, 8, 16, 32, 7, -8};
    int a = near(0, 3);
    int b = near(0, 24);
    int c = random.nextBoolean() ? near(0, 99) : random.nextInt();
    switch (random.nextInt(7)) {
      case 0:
        int of = bits[random.nextInt(bits.length)];
        due("sheet", x.sheet(a, of, b), y.sheet(a, of, b), a, of, b);
        break;
      case 1: case 2: case 3: case 4:
        due("put", x.put(a, b, c), y.put(a, b, c), a, b, c);
        break;
      case 5:
        int to = near(0, 3);
        int i = near(0, 12);
        int j = near(0, 12);
        int n = near(0, 12);
        due("move", x.move(a, i, to, j, n), y.move(a, i, to, j, n), a, i, to, j, n);
        break;
      default:
        due("holds", x.holds(a), y.holds(a), a);
    }
  }

  private static void tellAndCheck() {
    int many = random.nextInt(random.nextInt(5) == 0 ? 28 : 10);
    for (int i = 0; i < many; i++) {
      int v = random.nextInt(30) == 0 ? random.nextInt() : (int) y.then(i + 1, 7);
      due("tell", x.tell(v), y.tell(v), v);
    }
    due("check", x.check(), y.check());
  }
}

import java.util.ArrayList;
import java.util.Arrays;
import java.util.List;
import java.util.TreeSet;

/**
 * The document once more, without regard to speed or room: KINDS are Java classes with super, TEXTS are read by
 * recursion and FAULTS found by completing each beginning, FALLS' WAYS by going through every row.
 */
final class Slow {
  static final long LOW = -1000000000L;

  static final class Hold {
    int cell, hard, padded;
  }

  static final class Going {
    int kind, m, tenths;
  }

  /** All that an IMAGE keeps. */
  static final class State {
    int[] slip = new int[10], slope = new int[10];
    List<Hold> holds = new ArrayList<>();
    List<Going> goings = new ArrayList<>();
    int cell = 0, lean = 0, reach = 8, sway = 4, strength = 10, weeks = 0, learned = 0;
    int falls = 0, steps = 0, bumps = 0, yards = 0, now = 0, done = 0, days = 0, z = 1;
    String[] texts = new String[2];
    String tape = "";
    List<Integer> waiting = new ArrayList<>();

    State copy() {
      State s = new State();
      s.slip = slip.clone();
      s.slope = slope.clone();
      for (Hold h : holds) {
        Hold c = new Hold();
        c.cell = h.cell;
        c.hard = h.hard;
        c.padded = h.padded;
        s.holds.add(c);
      }
      for (Going g : goings) {
        Going c = new Going();
        c.kind = g.kind;
        c.m = g.m;
        c.tenths = g.tenths;
        s.goings.add(c);
      }
      s.cell = cell; s.lean = lean; s.reach = reach; s.sway = sway; s.strength = strength;
      s.weeks = weeks; s.learned = learned; s.falls = falls; s.steps = steps; s.bumps = bumps;
      s.yards = yards; s.now = now; s.done = done; s.days = days; s.z = z;
      s.texts = texts.clone();
      s.tape = tape;
      s.waiting = new ArrayList<>(waiting);
      return s;
    }

    int is(int what) {
      int left = goings.isEmpty() ? 0 : goings.get(now).tenths - done;
      int[] all = {cell, lean, reach, sway, strength, weeks, learned, falls, steps, bumps, yards, now, left, days};
      return all[what];
    }

    int nearest() {
      int best = -1;
      for (int i = holds.size() - 1; i >= 0; i--) {
        if (best < 0 || Math.abs(holds.get(i).cell - cell) <= Math.abs(holds.get(best).cell - cell)) {
          best = i;
        }
      }
      return best;
    }

    boolean atHand(int i) {
      return Math.abs(holds.get(i).cell - cell) <= reach;
    }

    boolean anyAtHand() {
      for (int i = 0; i < holds.size(); i++) {
        if (atHand(i)) {
          return true;
        }
      }
      return false;
    }

    /** SWAYS, STRIDE, PACE, CATCH. */
    int[] gait(Going g) {
      int base = strength + weeks / 4 + learned / 100;
      int[] plain = {sway, 0, 0, base};
      int[] along = {sway / 3, 1, 4, base + 20};
      switch (g.kind) {
        case 0: return plain;
        case 1: return anyAtHand() ? along : plain;
        case 2: return anyAtHand() ? along : new int[] {sway, 1, 3, base};
        case 3: return new int[] {sway, 2, 3, base};
        case 4: return new int[] {Math.min(9, sway + g.m / 25), 2, 3, base};
        case 5: return new int[] {sway, 2, 3, base - Math.abs(slope[cell / 10]) * 2};
        default: return new int[] {0, 0, 0, base};
      }
    }

    void tenth() {
      if (goings.isEmpty()) {
        return;
      }
      int[] gait = gait(goings.get(now));
      z = z * 1103515245 + 12345;
      tenthBy((z >>> 8) % (2 * gait[0] + 1) - gait[0], true);
    }

    /** One TENTH by a D; false if it falls in it, which is not done then without mayFall. */
    boolean tenthBy(int d, boolean mayFall) {
      int[] gait = gait(goings.get(now));
      int next = lean + lean / 5 + d + slope[cell / 10];
      boolean falls = next > 99 || next < -99;
      if (falls && !mayFall) {
        return false;
      }
      if (falls) {
        fall();
      } else {
        lean = next;
        if (gait[2] != 0 && (done + 1) % gait[2] == 0) {
          step(gait);
        }
      }
      done++;
      if (done == goings.get(now).tenths) {
        done = 0;
        now = (now + 1) % goings.size();
      }
      return !falls;
    }

    void step(int[] gait) {
      int grip = Math.max(0, gait[3] - slip[cell / 10] * 2);
      for (int i = 0; i < grip && lean != 0; i++) {
        lean += lean > 0 ? -1 : 1;
      }
      steps = Math.min(999999, steps + 1);
      for (int i = 0; i < gait[1] && cell < 99; i++) {
        cell++;
        yards = Math.min(999999, yards + 1);
      }
    }

    void fall() {
      lean = 0;
      falls = Math.min(999999, falls + 1);
      int h = 0;
      int hold = nearest();
      if (hold >= 0 && atHand(hold) && holds.get(hold).padded == 0) {
        h = holds.get(hold).hard;
      }
      bumps = Math.min(999999, bumps + h);
      int more = 5 - h / 20;
      if (texts[0] != null) {
        more = new Text(texts[0], "fswlh", new int[] {falls, steps, weeks, learned, h}).t();
        more = more < 0 ? 0 : more > 999 ? 999 : more;
      }
      learned = Math.min(9999, learned + more);
    }

    boolean dares(int g) {
      if (texts[1] == null) {
        return g < reach + weeks / 2 + learned / 100 + 1;
      }
      return new Text(texts[1], "grwl", new int[] {g, reach, weeks, learned}).t() != 0;
    }

    State after(int n) {
      State s = copy();
      for (int i = 0; i < n; i++) {
        s.tenth();
      }
      return s;
    }
  }

  /** Reads and works out at once; broken where it can't go on. */
  static final class Text {
    final String in;
    final String names;
    final int[] values;
    int at = 0;
    int open = 0;
    boolean broken = false;

    Text(String in, String names, int[] values) {
      this.in = in;
      this.names = names;
      this.values = values;
    }

    static boolean whole(String in, String names) {
      Text t = new Text(in, names, new int[5]);
      t.t();
      return !t.broken && t.at == in.length();
    }

    /** With at most an operand and some ) more, each beginning of a TEXT is a whole one. */
    static boolean begins(String in, String names) {
      String shut = "";
      for (int i = 0; i <= 5; i++) {
        if (whole(in + shut, names) || whole(in + "1" + shut, names)) {
          return true;
        }
        shut += ")";
      }
      return false;
    }

    static int fault(String in, String names) {
      for (int i = 0; i < in.length(); i++) {
        if (!begins(in.substring(0, i + 1), names)) {
          return i;
        }
      }
      return whole(in, names) ? -1 : in.length();
    }

    private boolean eat(char c) {
      if (at < in.length() && in.charAt(at) == c) {
        at++;
        return true;
      }
      return false;
    }

    int t() {
      int v = a();
      boolean many = false;
      boolean any = v != 0;
      while (eat('|')) {
        many = true;
        any |= a() != 0;
      }
      return many ? (any ? 1 : 0) : v;
    }

    int a() {
      int v = b();
      boolean many = false;
      boolean all = v != 0;
      while (eat('&')) {
        many = true;
        all &= b() != 0;
      }
      return many ? (all ? 1 : 0) : v;
    }

    int b() {
      int v = s();
      if (eat('<')) {
        return v < s() ? 1 : 0;
      }
      if (eat('=')) {
        return v == s() ? 1 : 0;
      }
      if (eat('>')) {
        return v > s() ? 1 : 0;
      }
      return v;
    }

    int s() {
      int v = p();
      while (true) {
        if (eat('+')) {
          v += p();
        } else if (eat('-')) {
          v -= p();
        } else {
          return v;
        }
      }
    }

    int p() {
      int v = q();
      while (true) {
        if (eat('*')) {
          v *= q();
        } else if (eat('/')) {
          int by = q();
          v = by == 0 ? 0 : v / by;
        } else if (eat('%')) {
          int by = q();
          v = by == 0 ? 0 : v % by;
        } else {
          return v;
        }
      }
    }

    int q() {
      if (eat('!')) {
        opens();
        int v = broken ? 0 : q();
        open--;
        return v == 0 ? 1 : 0;
      }
      if (eat('(')) {
        opens();
        int v = broken ? 0 : t();
        open--;
        broken |= !eat(')');
        return v;
      }
      int from = at;
      while (at < in.length() && at < from + 4 && in.charAt(at) >= '0' && in.charAt(at) <= '9') {
        at++;
      }
      if (at > from) {
        return Integer.parseInt(in.substring(from, at));
      }
      int name = at < in.length() ? names.indexOf(in.charAt(at)) : -1;
      broken |= name < 0;
      at++;
      return name < 0 ? 0 : values[name];
    }

    private void opens() {
      open++;
      broken |= open > 5;
    }
  }

  static final class Parted extends RuntimeException {
    private static final long serialVersionUID = 1;
  }

  static class G {
    int k, m;
    List<Integer> trace;
    int b(int body) { trace.add(body); return 0; }
    int leans(int x) { b(10); return x + k; }
    int steps(int x) { b(11); return leans(x) * 2; }
    int falls(int x) { b(12); return steps(x) - m; }
    int learns(int x) { b(13); if (m == k) { throw new Parted(); } return x / (m - k); }
  }

  static class Held extends G {
    @Override int leans(int x) { b(20); return super.leans(x) - 3; }
    @Override int learns(int x) { b(21); return super.learns(x) + steps(1); }
  }

  static class Gapped extends Held {
    @Override int steps(int x) { b(30); return 0 - super.steps(x); }
  }

  static class Free extends G {
    @Override int falls(int x) { b(40); return super.falls(x / 2); }
  }

  static class Carrying extends Free {
    @Override int leans(int x) { b(50); return super.leans(x) * 3; }
    @Override int falls(int x) { b(51); return super.falls(x) ^ k; }
  }

  static class Sloped extends Free {
    @Override int steps(int x) { b(60); return super.steps(x + 1); }
  }

  static class Sat extends G {
    @Override int leans(int x) { b(70); return 4; }
    @Override int steps(int x) { b(71); return super.steps(x) + m; }
  }

  State s = new State();
  State image = null;
  int images = 0;
  long[] told = new long[7];
  List<Integer> trace = new ArrayList<>();
  int[][] sheets = new int[4][];
  int[] bits = new int[4];

  private long error(int k) {
    told[k]++;
    return LOW - k;
  }

  private static boolean in(long v, long least, long most) {
    return v >= least && v <= most;
  }

  private boolean hold(int i) {
    return in(i, 0, s.holds.size() - 1);
  }

  private boolean goes(int i) {
    return in(i, 0, s.goings.size() - 1);
  }

  long floor(int floor, int what, int v) {
    if (!in(floor, 0, 9) || !in(what, 0, 1) || (what == 0 ? !in(v, 0, 9) : !in(v, -9, 9))) {
      return error(1);
    }
    int[] row = what == 0 ? s.slip : s.slope;
    int was = row[floor];
    row[floor] = v;
    return was;
  }

  private long comes(int cell, int hard) {
    if (!in(cell, 0, 99) || !in(hard, 0, 99)) {
      return LOW - 1;
    }
    if (s.holds.size() == 8) {
      return LOW - 4;
    }
    Hold h = new Hold();
    h.cell = cell;
    h.hard = hard;
    s.holds.add(h);
    return s.holds.size() - 1;
  }

  long hold(int cell, int hard) {
    long answer = comes(cell, hard);
    return answer < LOW ? error((int) (LOW - answer)) : answer;
  }

  long holdIs(int hold, int what) {
    if (!hold(hold) || !in(what, 0, 3)) {
      return error(1);
    }
    Hold h = s.holds.get(hold);
    return new int[] {h.cell, h.hard, h.padded, s.atHand(hold) ? 1 : 0}[what];
  }

  long setHold(int hold, int what, int v) {
    if (!hold(hold) || !in(what, 0, 2) || !in(v, 0, what == 2 ? 1 : 99)) {
      return error(1);
    }
    Hold h = s.holds.get(hold);
    int was = new int[] {h.cell, h.hard, h.padded}[what];
    if (what == 0) {
      h.cell = v;
    } else if (what == 1) {
      h.hard = v;
    } else {
      h.padded = v;
    }
    return was;
  }

  long set(int what, int v) {
    if (!in(what, 0, 6)) {
      return error(1);
    }
    int[][] bounds = {{0, 99}, {-99, 99}, {1, 30}, {0, 9}, {0, 50}, {0, 60}, {0, 9999}};
    if (!in(v, bounds[what][0], bounds[what][1])) {
      return error(1);
    }
    int was = s.is(what);
    switch (what) {
      case 0: s.cell = v; break;
      case 1: s.lean = v; break;
      case 2: s.reach = v; break;
      case 3: s.sway = v; break;
      case 4: s.strength = v; break;
      case 5: s.weeks = v; break;
      default: s.learned = v; break;
    }
    return was;
  }

  long is(int what) {
    return in(what, 0, 13) ? s.is(what) : error(1);
  }

  long nearest() {
    return s.holds.isEmpty() ? error(2) : s.nearest();
  }

  long going(int km, int tenths) {
    if (!in(km, 0, 699) || !in(tenths, 1, 60)) {
      return error(1);
    }
    if (s.goings.size() == 8) {
      return error(4);
    }
    Going g = new Going();
    g.kind = km / 100;
    g.m = km % 100;
    g.tenths = tenths;
    s.goings.add(g);
    return s.goings.size() - 1;
  }

  long goingIs(int going, int what) {
    if (!goes(going) || !in(what, 0, 6)) {
      return error(1);
    }
    Going g = s.goings.get(going);
    return what == 0 ? g.kind : what == 1 ? g.m : what == 2 ? g.tenths : s.gait(g)[what - 3];
  }

  private G voiceOf(int kind) {
    G[] all = {new G(), new Held(), new Gapped(), new Free(), new Carrying(), new Sloped(), new Sat()};
    return all[kind];
  }

  long as(int going, int kind) {
    if (!goes(going) || !in(kind, 0, 6)) {
      return error(1);
    }
    Going g = s.goings.get(going);
    return voiceOf(kind).getClass().isInstance(voiceOf(g.kind)) ? g.m : error(5);
  }

  long setGoing(int going, int what, int v) {
    if (!goes(going) || !in(what, 0, 1) || !in(v, 0, what == 0 ? 6 : 99)) {
      return error(1);
    }
    Going g = s.goings.get(going);
    int was = what == 0 ? g.kind : g.m;
    if (what == 0) {
      g.kind = v;
    } else {
      g.m = v;
    }
    return was;
  }

  long feed(long word, int n) {
    if (!in(n, 1, 8)) {
      return error(1);
    }
    if (s.tape.length() + n > 60) {
      return error(4);
    }
    for (int i = 0; i < n; i++) {
      s.tape += (char) ((word >> (8 * i)) & 255);
    }
    return s.tape.length();
  }

  long text(int use) {
    if (!in(use, 0, 1)) {
      return error(1);
    }
    String in = s.tape;
    s.tape = "";
    int fault = Text.fault(in, use == 0 ? "fswlh" : "grwl");
    if (fault >= 0) {
      return -10 - fault;
    }
    s.texts[use] = in;
    return 1;
  }

  long untell(int use) {
    if (!in(use, 0, 1)) {
      return error(1);
    }
    boolean was = s.texts[use] != null;
    s.texts[use] = null;
    return was ? 1 : 0;
  }

  long tenths(int n) {
    if (!in(n, 1, 200)) {
      return error(1);
    }
    if (s.goings.isEmpty()) {
      return error(3);
    }
    s = s.after(n);
    return s.falls;
  }

  long days(int n) {
    if (!in(n, 1, 60)) {
      return error(1);
    }
    if (s.days + n > 9999) {
      return error(3);
    }
    s.weeks = Math.min(60, s.weeks + (s.days + n) / 7 - s.days / 7);
    s.days += n;
    s.cell = 0;
    s.lean = 0;
    s.now = 0;
    s.done = 0;
    return s.weeks;
  }

  long seed(int v) {
    int was = s.z;
    s.z = v;
    return was;
  }

  long then(int n, int what) {
    return in(n, 0, 200) && in(what, 0, 13) ? s.after(n).is(what) : error(1);
  }

  private static long all;
  private static long fallen;

  private static void rows(State at, boolean fell, State track, int n) {
    if (n == 0) {
      all++;
      fallen += fell ? 1 : 0;
      return;
    }
    int sways = track.gait(track.goings.get(track.now))[0];
    for (int d = -sways; d <= sways; d++) {
      State next = at.copy();
      boolean falls = fell || !next.tenthBy(d, false);
      State on = track.copy();
      // A track that never leans goes on as without any fall.
      Arrays.fill(on.slope, 0);
      on.lean = 0;
      on.tenthBy(0, true);
      System.arraycopy(track.slope, 0, on.slope, 0, 10);
      rows(next, falls, on, n - 1);
    }
  }

  long ways(int n, int part) {
    if (!in(n, 1, 8) || !in(part, 0, 1)) {
      return error(1);
    }
    if (s.goings.isEmpty()) {
      return error(3);
    }
    all = 0;
    fallen = 0;
    rows(s, false, s, n);
    long by = java.math.BigInteger.valueOf(all).gcd(java.math.BigInteger.valueOf(fallen)).longValue();
    return (part == 0 ? fallen : all) / by;
  }

  private List<Integer> cells() {
    TreeSet<Integer> cells = new TreeSet<>();
    for (Hold h : s.holds) {
      cells.add(h.cell);
    }
    return new ArrayList<>(cells);
  }

  long way(int one, int other) {
    if (!hold(one) || !hold(other)) {
      return error(1);
    }
    int a = s.holds.get(one).cell;
    int b = s.holds.get(other).cell;
    List<Integer> cells = cells();
    for (int i = 0; i + 1 < cells.size(); i++) {
      boolean between = cells.get(i) >= Math.min(a, b) && cells.get(i + 1) <= Math.max(a, b);
      if (between && !s.dares(cells.get(i + 1) - cells.get(i))) {
        return 0;
      }
    }
    return 1;
  }

  long gaps(int what) {
    if (!in(what, 0, 2)) {
      return error(1);
    }
    List<Integer> cells = cells();
    int dared = 0;
    int widest = 0;
    for (int i = 0; i + 1 < cells.size(); i++) {
      int g = cells.get(i + 1) - cells.get(i);
      if (s.dares(g)) {
        dared++;
      } else {
        widest = Math.max(widest, g);
      }
    }
    return what == 0 ? Math.max(0, cells.size() - 1) : what == 1 ? dared : widest;
  }

  long pad(int n) {
    if (!in(n, 0, 200)) {
      return error(1);
    }
    if (s.holds.isEmpty()) {
      return error(2);
    }
    long[] worth = new long[s.holds.size()];
    for (int i = 0; i < worth.length; i++) {
      State t = s.copy();
      t.holds.get(i).padded = 1;
      worth[i] = -t.after(n).bumps;
    }
    return first(worth);
  }

  private static int first(long[] worth) {
    long most = Arrays.stream(worth).max().getAsLong();
    for (int i = 0; i < worth.length; i++) {
      if (worth[i] == most) {
        return i;
      }
    }
    return -1;
  }

  long stand(int hold, int n) {
    if (!hold(hold) || !in(n, 0, 60)) {
      return error(1);
    }
    long[] worth = new long[100];
    for (int i = 0; i < 100; i++) {
      State t = s.copy();
      t.holds.get(hold).cell = i;
      worth[i] = t.after(n).yards;
    }
    return first(worth);
  }

  long go(int n) {
    if (!in(n, 0, 200)) {
      return error(1);
    }
    if (s.goings.isEmpty()) {
      return error(3);
    }
    long[] worth = new long[7];
    for (int i = 0; i < 7; i++) {
      State t = s.copy();
      t.goings.get(t.now).kind = i;
      t = t.after(n);
      worth[i] = t.yards - 10L * t.falls;
    }
    return first(worth);
  }

  long voice(int going, int voice, int x) {
    if (!goes(going) || !in(voice, 0, 3)) {
      return error(1);
    }
    G g = voiceOf(s.goings.get(going).kind);
    g.k = going;
    g.m = s.goings.get(going).m;
    trace = new ArrayList<>();
    g.trace = trace;
    try {
      return voice == 0 ? g.leans(x) : voice == 1 ? g.steps(x) : voice == 2 ? g.falls(x) : g.learns(x);
    } catch (Parted e) {
      return error(6);
    }
  }

  long body(int i) {
    return in(i, 0, Math.min(30, trace.size()) - 1) ? trace.get(i) : error(2);
  }

  long sheet(int sheet, int newBits, int n) {
    if (!in(sheet, 0, 3) || (newBits != 0 && newBits != 8 && newBits != 16 && newBits != 32)) {
      return error(1);
    }
    if (newBits == 0) {
      sheets[sheet] = null;
      return 1;
    }
    if (n < 0) {
      return error(3);
    }
    if (n > 24) {
      return error(1);
    }
    sheets[sheet] = new int[n];
    bits[sheet] = newBits;
    return 1;
  }

  long put(int sheet, int i, int v) {
    if (!in(sheet, 0, 3)) {
      return error(1);
    }
    if (sheets[sheet] == null) {
      return error(2);
    }
    if (!in(i, 0, sheets[sheet].length - 1)) {
      return error(1);
    }
    int away = 32 - bits[sheet];
    sheets[sheet][i] = v << away >> away;
    return 1;
  }

  long move(int sheet, int i, int other, int j, int n) {
    if (!in(sheet, 0, 3) || !in(other, 0, 3)) {
      return error(1);
    }
    int[] from = sheets[sheet];
    int[] to = sheets[other];
    if (from == null || to == null) {
      return error(2);
    }
    if (bits[sheet] != bits[other]) {
      return error(5);
    }
    if (n < 0 || i < 0 || j < 0 || (long) i + n > from.length || (long) j + n > to.length) {
      return error(1);
    }
    int[] were = from.clone();
    for (int k = 0; k < n; k++) {
      to[j + k] = were[i + k];
    }
    return n;
  }

  private long film(int sheet) {
    return !in(sheet, 0, 3) ? error(1) : sheets[sheet] == null ? error(2) : 0;
  }

  long holds(int sheet) {
    long error = film(sheet);
    if (error != 0) {
      return error;
    }
    int came = 0;
    while (2 * came + 1 < sheets[sheet].length && comes(sheets[sheet][2 * came], sheets[sheet][2 * came + 1]) >= 0) {
      came++;
    }
    return came;
  }

  private long off(int[] film, State from) {
    long off = 0;
    for (int i = 0; i < film.length; i++) {
      off += Math.min(1000, Math.abs((long) film[i] - from.after(i + 1).cell));
    }
    return off;
  }

  long off(int sheet) {
    long error = film(sheet);
    return error != 0 ? error : off(sheets[sheet], s);
  }

  long guess(int sheet) {
    long error = film(sheet);
    if (error != 0) {
      return error;
    }
    long[] worth = new long[61];
    for (int i = 0; i <= 60; i++) {
      State t = s.copy();
      t.weeks = i;
      worth[i] = -off(sheets[sheet], t);
    }
    return first(worth);
  }

  long image() {
    image = s.copy();
    return ++images;
  }

  long restore() {
    if (image == null) {
      return error(2);
    }
    s = image.copy();
    return s.days;
  }

  long tell(int v) {
    if (s.waiting.size() == 24) {
      return error(4);
    }
    s.waiting.add(v);
    return s.waiting.size();
  }

  long check() {
    List<Integer> were = s.waiting;
    s.waiting = new ArrayList<>();
    for (int i = 0; i < were.size(); i++) {
      if (s.after(i + 1).falls != were.get(i)) {
        return 1 + i;
      }
    }
    return 0;
  }

  long count(int what) {
    if (!in(what, 0, 5)) {
      return error(1);
    }
    return new int[] {s.holds.size(), s.goings.size(), s.tape.length(), s.waiting.size(), Math.min(30, trace.size()),
        s.z}[what];
  }

  long told(int k) {
    return in(k, 1, 6) ? told[k] : error(1);
  }
}

/**
 * From chair to chair: a child of twelve months, the room in which it goes, what it would do AHEAD.
 * The document of the project (../shared/DOC.md) says what each call does; words in capitals are its words.
 */
public final class FirstSteps {
  private static final int LOW = -1000000000;
  // An ERROR is LOW less one of these.
  private static final int BEYOND = 1;
  private static final int NONE = 2;
  private static final int STATE = 3;
  private static final int FULL = 4;
  private static final int UNLIKE_KIND = 5;
  private static final int PARTED = 6;

  private static final int CELLS = 100;
  private static final int FLOORS = 10;
  private static final int CELLS_OF_FLOOR = 10;
  private static final int MOST_HOLDS = 8;
  private static final int MOST_GOINGS = 8;
  private static final int MOST_TENTHS = 60;
  private static final int MOST_BYTES = 60;
  private static final int MOST_NUMBERS = 24;
  private static final int MOST_BODIES = 30;
  private static final int MOST_DAYS = 9999;
  private static final int MOST_WEEKS = 60;
  private static final int MOST_COUNTED = 999999;
  private static final int FARTHEST_LEAN = 99;
  private static final int SHEETS = 4;
  private static final int LONGEST_AHEAD = 200;
  private static final int LONGEST_STAND = 60;
  private static final int LONGEST_WAYS = 8;

  // The places of what THE CHILD is, as is() numbers them; z stands behind them.
  private static final int CELL = 0;
  private static final int LEAN = 1;
  private static final int REACH = 2;
  private static final int SWAY = 3;
  private static final int STRENGTH = 4;
  private static final int WEEKS = 5;
  private static final int LEARNED = 6;
  private static final int FALLS = 7;
  private static final int STEPS = 8;
  private static final int BUMPS = 9;
  private static final int YARDS = 10;
  private static final int NOW = 11;
  private static final int LEFT = 12;
  private static final int DAYS = 13;
  private static final int Z = 14;
  private static final int[] FIRST = {0, 0, 8, 4, 10, 0, 0, 0, 0, 0, 0, 0, 0, 0, 1};
  private static final int[] LEAST = {0, -99, 1, 0, 0, 0, 0};
  private static final int[] MOST = {99, 99, 30, 9, 50, 60, 9999};

  private static final int KINDS = 7;
  private static final int HELD = 1;
  private static final int GAPPED = 2;
  private static final int CARRYING = 4;
  private static final int SLOPED = 5;
  private static final int SAT = 6;
  private static final int[] KIND_ABOVE = {-1, 0, 1, 0, 3, 3, 0};

  private static final int VOICES = 4;
  private static final int LEANS_VOICE = 0;
  private static final int STEPS_VOICE = 1;
  private static final int FALLS_VOICE = 2;
  private static final int LEARNS_VOICE = 3;
  // The BODY of each VOICE in each KIND, VOICES in a row for a KIND; 0 where there is none.
  private static final int[] BODIES = {
    10, 11, 12, 13,
    20, 0, 0, 21,
    0, 30, 0, 0,
    0, 0, 40, 0,
    50, 0, 51, 0,
    0, 60, 0, 0,
    70, 71, 0, 0};

  private static final int USES = 2;
  private static final int LEARNS_USE = 0;
  private static final String LEARNS_NAMES = "fswlh";
  private static final String DARES_NAMES = "grwl";

  private final World live = new World();
  private final World kept = new World();
  private final World ahead = new World();
  private final Reader reader = new Reader();
  private final Rows rows = new Rows();
  private final Sheet[] sheets = new Sheet[SHEETS];
  private final int[] refusals = new int[PARTED];
  private final Speech latest = new Speech();
  private int images = 0;

  public FirstSteps() {
    for (int i = 0; i < sheets.length; i++) {
      sheets[i] = new Sheet();
    }
  }

  // ---- the room, the child

  public int floor(int floor, int what, int v) {
    if (!within(floor, 0, FLOORS - 1) || !within(what, 0, 1) || !within(v, what == 0 ? 0 : -9, 9)) {
      return refused(BEYOND);
    }
    return exchange(what == 0 ? live.room.slips : live.room.slopes, floor, v);
  }

  public int hold(int cell, int hard) {
    if (!Room.mayStand(cell, hard)) {
      return refused(BEYOND);
    }
    if (live.room.count >= MOST_HOLDS) {
      return refused(FULL);
    }
    return live.room.add(cell, hard);
  }

  public int holdIs(int hold, int what) {
    if (!isHold(hold) || !within(what, 0, 3)) {
      return refused(BEYOND);
    }
    if (what == 3) {
      return live.isAtHand(hold) ? 1 : 0;
    }
    return at(live.room.row(what), hold);
  }

  public int setHold(int hold, int what, int v) {
    if (!isHold(hold) || !within(what, 0, 2) || !within(v, 0, what == 2 ? 1 : 99)) {
      return refused(BEYOND);
    }
    return exchange(live.room.row(what), hold, v);
  }

  public int set(int what, int v) {
    if (!within(what, CELL, LEARNED) || !within(v, at(LEAST, what), at(MOST, what))) {
      return refused(BEYOND);
    }
    return exchange(live.child, what, v);
  }

  public int is(int what) {
    if (!within(what, CELL, DAYS)) {
      return refused(BEYOND);
    }
    return at(live.child, what);
  }

  public int nearest() {
    int hold = live.room.nearestTo(live.child[CELL]);
    return hold < 0 ? refused(NONE) : hold;
  }

  // ---- goings

  public int going(int km, int tenths) {
    if (!within(km, 0, KINDS * 100 - 1) || !within(tenths, 1, MOST_TENTHS)) {
      return refused(BEYOND);
    }
    if (live.goings.count >= MOST_GOINGS) {
      return refused(FULL);
    }
    int number = live.goings.add(km / 100, km % 100, tenths);
    if (number == 0) {
      live.come(0);
    }
    return number;
  }

  public int goingIs(int going, int what) {
    if (!isGoing(going) || !within(what, 0, 6)) {
      return refused(BEYOND);
    }
    Gait gait = live.gaitOf(going);
    switch (what) {
      case 0: return at(live.goings.kinds, going);
      case 1: return at(live.goings.numbers, going);
      case 2: return at(live.goings.tenths, going);
      case 3: return gait.sways;
      case 4: return gait.stride;
      case 5: return gait.pace;
      default: return gait.grip;
    }
  }

  public int as(int going, int kind) {
    if (!isGoing(going) || !within(kind, 0, KINDS - 1)) {
      return refused(BEYOND);
    }
    int own = at(live.goings.kinds, going);
    for (int i = 0; i < KINDS && own >= 0; i++) {
      if (own == kind) {
        return at(live.goings.numbers, going);
      }
      own = at(KIND_ABOVE, own);
    }
    return refused(UNLIKE_KIND);
  }

  public int setGoing(int going, int what, int v) {
    if (!isGoing(going) || !within(what, 0, 1) || !within(v, 0, what == 0 ? KINDS - 1 : 99)) {
      return refused(BEYOND);
    }
    return exchange(what == 0 ? live.goings.kinds : live.goings.numbers, going, v);
  }

  // ---- texts

  public int feed(long word, int n) {
    if (!within(n, 1, 8)) {
      return refused(BEYOND);
    }
    if (n > MOST_BYTES - live.taped) {
      return refused(FULL);
    }
    for (int i = 0; i < n; i++) {
      exchange(live.tape, live.taped, (int) (word >>> (8 * i)) & 255);
      live.taped++;
    }
    return live.taped;
  }

  public int text(int use) {
    if (!within(use, 0, USES - 1)) {
      return refused(BEYOND);
    }
    int fault = reader.read(live.tape, live.taped, use == LEARNS_USE ? LEARNS_NAMES : DARES_NAMES);
    live.taped = 0;
    if (fault >= 0) {
      return -10 - fault;
    }
    live.textOf(use).become(reader.made);
    return 1;
  }

  public int untell(int use) {
    if (!within(use, 0, USES - 1)) {
      return refused(BEYOND);
    }
    Text gone = live.textOf(use);
    int was = gone.length > 0 ? 1 : 0;
    gone.length = 0;
    return was;
  }

  // ---- tenths, days

  public int tenths(int n) {
    if (!within(n, 1, LONGEST_AHEAD)) {
      return refused(BEYOND);
    }
    if (live.goings.count == 0) {
      return refused(STATE);
    }
    live.pass(n);
    return live.child[FALLS];
  }

  public int days(int n) {
    if (!within(n, 1, 60)) {
      return refused(BEYOND);
    }
    if (live.child[DAYS] + n > MOST_DAYS) {
      return refused(STATE);
    }
    for (int i = 0; i < n; i++) {
      live.passDay();
    }
    return live.child[WEEKS];
  }

  public int seed(int v) {
    return exchange(live.child, Z, v);
  }

  // ---- ahead

  public int then(int n, int what) {
    if (!within(n, 0, LONGEST_AHEAD) || !within(what, CELL, DAYS)) {
      return refused(BEYOND);
    }
    ahead.become(live);
    ahead.pass(n);
    return at(ahead.child, what);
  }

  public long ways(int n, int part) {
    if (!within(n, 1, LONGEST_WAYS) || !within(part, 0, 1)) {
      return refused(BEYOND);
    }
    if (live.goings.count == 0) {
      return refused(STATE);
    }
    ahead.become(live);
    rows.follow(ahead, n);
    return rows.lowest(part == 0 ? rows.fallen : rows.all);
  }

  public int way(int one, int other) {
    if (!isHold(one) || !isHold(other)) {
      return refused(BEYOND);
    }
    int here = at(live.room.cells, one);
    int there = at(live.room.cells, other);
    int end = Math.max(here, there);
    int cell = Math.min(here, there);
    for (int i = 0; i < live.room.count && cell < end; i++) {
      int next = live.room.nextCell(cell);
      if (!live.dares(next - cell)) {
        return 0;
      }
      cell = next;
    }
    return 1;
  }

  public int gaps(int what) {
    if (!within(what, 0, 2)) {
      return refused(BEYOND);
    }
    int all = 0;
    int dared = 0;
    int widest = 0;
    int cell = live.room.nextCell(-1);
    int next = live.room.nextCell(cell);
    for (int i = 0; i < live.room.count && next > cell; i++) {
      all++;
      if (live.dares(next - cell)) {
        dared++;
      } else {
        widest = Math.max(widest, next - cell);
      }
      cell = next;
      next = live.room.nextCell(cell);
    }
    return what == 0 ? all : what == 1 ? dared : widest;
  }

  public int pad(int n) {
    if (!within(n, 0, LONGEST_AHEAD)) {
      return refused(BEYOND);
    }
    if (live.room.count == 0) {
      return refused(NONE);
    }
    int best = 0;
    int least = Integer.MAX_VALUE;
    for (int hold = 0; hold < live.room.count; hold++) {
      ahead.become(live);
      exchange(ahead.room.pads, hold, 1);
      ahead.pass(n);
      if (ahead.child[BUMPS] < least) {
        least = ahead.child[BUMPS];
        best = hold;
      }
    }
    return best;
  }

  public int stand(int hold, int n) {
    if (!isHold(hold) || !within(n, 0, LONGEST_STAND)) {
      return refused(BEYOND);
    }
    int best = 0;
    int most = -1;
    for (int cell = 0; cell < CELLS; cell++) {
      ahead.become(live);
      exchange(ahead.room.cells, hold, cell);
      ahead.pass(n);
      if (ahead.child[YARDS] > most) {
        most = ahead.child[YARDS];
        best = cell;
      }
    }
    return best;
  }

  public int go(int n) {
    if (!within(n, 0, LONGEST_AHEAD)) {
      return refused(BEYOND);
    }
    if (live.goings.count == 0) {
      return refused(STATE);
    }
    int best = 0;
    int most = Integer.MIN_VALUE;
    for (int kind = 0; kind < KINDS; kind++) {
      ahead.become(live);
      exchange(ahead.goings.kinds, live.child[NOW], kind);
      ahead.pass(n);
      int worth = ahead.child[YARDS] - 10 * ahead.child[FALLS];
      if (worth > most) {
        most = worth;
        best = kind;
      }
    }
    return best;
  }

  // ---- voices, sheets, images, what is told

  public int voice(int going, int voice, int x) {
    if (!isGoing(going) || !within(voice, 0, VOICES - 1)) {
      return refused(BEYOND);
    }
    int answer = latest.answer(live.goings, going, voice, x);
    // A voice() that PARTED is the latest one, too: THE TRACE holds the BODIES that it began.
    return latest.parted ? refused(PARTED) : answer;
  }

  public int body(int i) {
    return within(i, 0, latest.count - 1) ? at(latest.begun, i) : refused(NONE);
  }

  public int sheet(int sheet, int bits, int n) {
    Sheet row = sheetAt(sheet);
    if (row == null || (bits != 0 && bits != 8 && bits != 16 && bits != 32)) {
      return refused(BEYOND);
    }
    if (bits != 0 && n < 0) {
      return refused(STATE);
    }
    if (bits != 0 && n > MOST_NUMBERS) {
      return refused(BEYOND);
    }
    row.begin(bits, n);
    return 1;
  }

  public int put(int sheet, int i, int v) {
    Sheet row = sheetAt(sheet);
    if (row == null) {
      return refused(BEYOND);
    }
    if (row.bits == 0) {
      return refused(NONE);
    }
    if (!within(i, 0, row.length - 1)) {
      return refused(BEYOND);
    }
    exchange(row.numbers, i, row.lowestBits(v));
    return 1;
  }

  public int move(int sheet, int i, int other, int j, int n) {
    Sheet from = sheetAt(sheet);
    Sheet to = sheetAt(other);
    if (from == null || to == null) {
      return refused(BEYOND);
    }
    if (from.bits == 0 || to.bits == 0) {
      return refused(NONE);
    }
    if (from.bits != to.bits) {
      return refused(UNLIKE_KIND);
    }
    if (!from.has(i, n) || !to.has(j, n)) {
      return refused(BEYOND);
    }
    System.arraycopy(from.numbers, i, to.numbers, j, n);
    return n;
  }

  public int holds(int sheet) {
    Sheet row = sheetAt(sheet);
    if (row == null) {
      return refused(BEYOND);
    }
    if (row.bits == 0) {
      return refused(NONE);
    }
    int came = 0;
    for (int i = 0; i + 1 < row.length; i += 2) {
      int cell = at(row.numbers, i);
      int hard = at(row.numbers, i + 1);
      if (!Room.mayStand(cell, hard) || live.room.count >= MOST_HOLDS) {
        break;
      }
      live.room.add(cell, hard);
      came++;
    }
    return came;
  }

  public int off(int sheet) {
    Sheet film = sheetAt(sheet);
    if (film == null) {
      return refused(BEYOND);
    }
    if (film.bits == 0) {
      return refused(NONE);
    }
    ahead.become(live);
    return offAhead(film);
  }

  public int guess(int sheet) {
    Sheet film = sheetAt(sheet);
    if (film == null) {
      return refused(BEYOND);
    }
    if (film.bits == 0) {
      return refused(NONE);
    }
    int best = 0;
    int least = Integer.MAX_VALUE;
    for (int weeks = 0; weeks <= MOST_WEEKS; weeks++) {
      ahead.become(live);
      ahead.child[WEEKS] = weeks;
      int off = offAhead(film);
      if (off < least) {
        least = off;
        best = weeks;
      }
    }
    return best;
  }

  public int image() {
    kept.become(live);
    images++;
    return images;
  }

  public int restore() {
    if (images == 0) {
      return refused(NONE);
    }
    live.become(kept);
    return live.child[DAYS];
  }

  public int tell(int v) {
    if (live.waits >= MOST_NUMBERS) {
      return refused(FULL);
    }
    exchange(live.waiting, live.waits, v);
    live.waits++;
    return live.waits;
  }

  public int check() {
    int many = live.waits;
    ahead.become(live);
    live.waits = 0;
    for (int i = 0; i < many; i++) {
      ahead.passTenth();
      if (at(live.waiting, i) != ahead.child[FALLS]) {
        return 1 + i;
      }
    }
    return 0;
  }

  public int count(int what) {
    switch (what) {
      case 0: return live.room.count;
      case 1: return live.goings.count;
      case 2: return live.taped;
      case 3: return live.waits;
      case 4: return latest.count;
      case 5: return live.child[Z];
      default: return refused(BEYOND);
    }
  }

  public int told(int k) {
    if (!within(k, 1, PARTED)) {
      return refused(BEYOND);
    }
    return at(refusals, k - 1);
  }

  // ---- what several calls need

  private int refused(int error) {
    exchange(refusals, error - 1, at(refusals, error - 1) + 1);
    return LOW - error;
  }

  private boolean isHold(int hold) {
    return within(hold, 0, live.room.count - 1);
  }

  private boolean isGoing(int going) {
    return within(going, 0, live.goings.count - 1);
  }

  /** null: no such SHEET. */
  private Sheet sheetAt(int sheet) {
    return sheet >= 0 && sheet < sheets.length ? sheets[sheet] : null;
  }

  /** How far a FILM is OFF from what the copy AHEAD does, which goes on by it. */
  private int offAhead(Sheet film) {
    long together = 0;
    for (int i = 0; i < film.length; i++) {
      ahead.passTenth();
      // As longs: a number of 32 bits less a CELL may leave the ints.
      long difference = Math.abs((long) at(film.numbers, i) - ahead.child[CELL]);
      together += Math.min(1000L, difference);
    }
    return (int) together;
  }

  private static boolean within(int v, int least, int most) {
    return v >= least && v <= most;
  }

  private static int held(int v, int least, int most) {
    return Math.max(least, Math.min(most, v));
  }

  private static int at(int[] row, int i) {
    return i >= 0 && i < row.length ? row[i] : 0;
  }

  /** Puts a number into a row and tells which one stood there. */
  private static int exchange(int[] row, int i, int v) {
    if (i < 0 || i >= row.length) {
      return 0;
    }
    int was = row[i];
    row[i] = v;
    return was;
  }

  private static void copy(int[] from, int[] to) {
    System.arraycopy(from, 0, to, 0, Math.min(from.length, to.length));
  }

  /** THE ROOM: its FLOORS, and the HOLDS as they stand. */
  private static final class Room {
    final int[] slips = new int[FLOORS];
    final int[] slopes = new int[FLOORS];
    final int[] cells = new int[MOST_HOLDS];
    final int[] hards = new int[MOST_HOLDS];
    final int[] pads = new int[MOST_HOLDS];
    int count = 0;

    static boolean mayStand(int cell, int hard) {
      return within(cell, 0, CELLS - 1) && within(hard, 0, 99);
    }

    void become(Room other) {
      copy(other.slips, slips);
      copy(other.slopes, slopes);
      copy(other.cells, cells);
      copy(other.hards, hards);
      copy(other.pads, pads);
      count = other.count;
    }

    int add(int cell, int hard) {
      int number = count;
      exchange(cells, number, cell);
      exchange(hards, number, hard);
      exchange(pads, number, 0);
      count = Math.min(MOST_HOLDS, number + 1);
      return number;
    }

    int[] row(int what) {
      return what == 0 ? cells : what == 1 ? hards : pads;
    }

    int distance(int hold, int cell) {
      return Math.abs(at(cells, hold) - cell);
    }

    /** NEAREST to a CELL; -1 without HOLDS. */
    int nearestTo(int cell) {
      int best = -1;
      int least = CELLS;
      for (int hold = 0; hold < count; hold++) {
        if (distance(hold, cell) < least) {
          least = distance(hold, cell);
          best = hold;
        }
      }
      return best;
    }

    /** The next CELL behind this one in which a HOLD stands; -1 if there is none. */
    int nextCell(int cell) {
      int next = -1;
      for (int hold = 0; hold < count; hold++) {
        int there = at(cells, hold);
        if (there > cell && (next < 0 || there < next)) {
          next = there;
        }
      }
      return next;
    }
  }

  /** The GOINGS by their numbers. */
  private static final class Goings {
    final int[] kinds = new int[MOST_GOINGS];
    final int[] numbers = new int[MOST_GOINGS];
    final int[] tenths = new int[MOST_GOINGS];
    int count = 0;

    void become(Goings other) {
      copy(other.kinds, kinds);
      copy(other.numbers, numbers);
      copy(other.tenths, tenths);
      count = other.count;
    }

    int add(int kind, int m, int time) {
      int number = count;
      exchange(kinds, number, kind);
      exchange(numbers, number, m);
      exchange(tenths, number, time);
      count = Math.min(MOST_GOINGS, number + 1);
      return number;
    }
  }

  /** What a GOING makes of THE CHILD where it is; grip is its CATCH. */
  private static final class Gait {
    int sways;
    int stride;
    int pace;
    int grip;

    void become(int newSways, int newStride, int newPace, int newGrip) {
      sways = held(newSways, 0, 9);
      stride = newStride;
      pace = newPace;
      grip = newGrip;
    }
  }

  /** All that an IMAGE keeps. The calls change one, keep another, and look AHEAD in a third. */
  private static final class World {
    final int[] child = FIRST.clone();
    final Room room = new Room();
    final Goings goings = new Goings();
    final Text learnsText = new Text();
    final Text daresText = new Text();
    final int[] tape = new int[MOST_BYTES];
    final int[] waiting = new int[MOST_NUMBERS];
    int taped = 0;
    int waits = 0;
    private final Gait gait = new Gait();
    private final int[] named = new int[LEARNS_NAMES.length()];

    void become(World other) {
      copy(other.child, child);
      room.become(other.room);
      goings.become(other.goings);
      learnsText.become(other.learnsText);
      daresText.become(other.daresText);
      copy(other.tape, tape);
      copy(other.waiting, waiting);
      taped = other.taped;
      waits = other.waits;
    }

    Text textOf(int use) {
      return use == LEARNS_USE ? learnsText : daresText;
    }

    boolean isAtHand(int hold) {
      return hold >= 0 && room.distance(hold, child[CELL]) <= child[REACH];
    }

    int slope() {
      return at(room.slopes, child[CELL] / CELLS_OF_FLOOR);
    }

    void come(int going) {
      child[NOW] = going;
      child[LEFT] = going < goings.count ? at(goings.tenths, going) : 0;
    }

    Gait gaitOf(int going) {
      int kind = at(goings.kinds, going);
      int m = at(goings.numbers, going);
      int sway = child[SWAY];
      int grip = child[STRENGTH] + child[WEEKS] / 4 + child[LEARNED] / 100;
      boolean atHand = isAtHand(room.nearestTo(child[CELL]));
      if (kind == SAT) {
        gait.become(0, 0, 0, grip);
      } else if (kind == 0 || (kind == HELD && !atHand)) {
        gait.become(sway, 0, 0, grip);
      } else if (kind == GAPPED && !atHand) {
        gait.become(sway, 1, 3, grip);
      } else if (kind == HELD || kind == GAPPED) {
        gait.become(sway / 3, 1, 4, grip + 20);
      } else if (kind == CARRYING) {
        gait.become(sway + m / 25, 2, 3, grip);
      } else if (kind == SLOPED) {
        gait.become(sway, 2, 3, grip - 2 * Math.abs(slope()));
      } else {
        gait.become(sway, 2, 3, grip);
      }
      return gait;
    }

    void pass(int n) {
      for (int i = 0; i < n; i++) {
        passTenth();
      }
    }

    void passTenth() {
      if (goings.count == 0) {
        return;
      }
      Gait now = gaitOf(child[NOW]);
      int lean = leant(child[LEAN], draw(now.sways));
      if (!within(lean, -FARTHEST_LEAN, FARTHEST_LEAN)) {
        fall();
      } else if (isStep(now)) {
        child[LEAN] = caught(lean, now);
        stepOn(now);
      } else {
        child[LEAN] = lean;
      }
      goOn();
    }

    /** The next draw, as D. */
    private int draw(int sways) {
      child[Z] = child[Z] * 1103515245 + 12345;
      int many = 2 * Math.max(0, sways) + 1;
      return (child[Z] >>> 8) % many - sways;
    }

    int leant(int lean, int d) {
      return lean + lean / 5 + d + slope();
    }

    /** Whether the TENTH that is now, if THE CHILD stays up in it, brings a STEP. */
    boolean isStep(Gait now) {
      int done = at(goings.tenths, child[NOW]) - child[LEFT] + 1;
      return now.pace != 0 && done % now.pace == 0;
    }

    int caught(int lean, Gait now) {
      int slip = at(room.slips, child[CELL] / CELLS_OF_FLOOR);
      int nearer = Math.max(0, now.grip - 2 * slip);
      return lean > 0 ? Math.max(0, lean - nearer) : Math.min(0, lean + nearer);
    }

    void stepOn(Gait now) {
      int cell = Math.min(CELLS - 1, child[CELL] + now.stride);
      gain(STEPS, 1, MOST_COUNTED);
      gain(YARDS, cell - child[CELL], MOST_COUNTED);
      child[CELL] = cell;
    }

    private void fall() {
      int hold = room.nearestTo(child[CELL]);
      int hard = isAtHand(hold) && at(room.pads, hold) == 0 ? at(room.hards, hold) : 0;
      child[LEAN] = 0;
      gain(FALLS, 1, MOST_COUNTED);
      gain(BUMPS, hard, MOST_COUNTED);
      gain(LEARNED, learns(hard), at(MOST, LEARNED));
    }

    private void gain(int what, int more, int most) {
      exchange(child, what, Math.min(most, at(child, what) + more));
    }

    /** A TENTH of the GOING NOW is over. */
    void goOn() {
      child[LEFT]--;
      if (child[LEFT] <= 0) {
        come(child[NOW] + 1 < goings.count ? child[NOW] + 1 : 0);
      }
    }

    void passDay() {
      child[DAYS]++;
      if (child[DAYS] % 7 == 0) {
        gain(WEEKS, 1, MOST_WEEKS);
      }
      child[CELL] = 0;
      child[LEAN] = 0;
      come(0);
    }

    private int learns(int hard) {
      if (learnsText.length == 0) {
        return 5 - hard / 20;
      }
      name(child[FALLS], child[STEPS], child[WEEKS], child[LEARNED], hard);
      return held(learnsText.worth(named), 0, 999);
    }

    boolean dares(int gap) {
      if (daresText.length == 0) {
        return gap < child[REACH] + child[WEEKS] / 2 + child[LEARNED] / 100 + 1;
      }
      name(gap, child[REACH], child[WEEKS], child[LEARNED], 0);
      return daresText.worth(named) != 0;
    }

    /** What the NAMES of a USE mean, in their order there. */
    private void name(int first, int second, int third, int fourth, int fifth) {
      exchange(named, 0, first);
      exchange(named, 1, second);
      exchange(named, 2, third);
      exchange(named, 3, fourth);
      exchange(named, 4, fifth);
    }
  }

  /**
   * A TEXT, its operands ahead of their operators: 0 .. 9999 is a NUMBER, -1 and below a NAME, from OPERATOR on
   * the byte of an operator. Without an item there is no TEXT.
   */
  private static final class Text {
    static final int OPERATOR = 10000;
    final int[] items = new int[MOST_BYTES];
    int length = 0;
    private final int[] stack = new int[MOST_BYTES];

    void become(Text other) {
      copy(other.items, items);
      length = other.length;
    }

    void add(int item) {
      if (length >= 0 && length < items.length) {
        items[length] = item;
        length++;
      }
    }

    int worth(int[] named) {
      int height = 0;
      for (int i = 0; i < length; i++) {
        int item = at(items, i);
        if (item < OPERATOR) {
          exchange(stack, height, item < 0 ? at(named, -1 - item) : item);
          height++;
        } else if (item == OPERATOR + '!') {
          exchange(stack, height - 1, at(stack, height - 1) == 0 ? 1 : 0);
        } else {
          height--;
          exchange(stack, height - 1, joined(item - OPERATOR, at(stack, height - 1), at(stack, height)));
        }
      }
      return at(stack, 0);
    }

    private static int joined(int operator, int a, int b) {
      switch (operator) {
        case '|': return a != 0 || b != 0 ? 1 : 0;
        case '&': return a != 0 && b != 0 ? 1 : 0;
        case '<': return a < b ? 1 : 0;
        case '=': return a == b ? 1 : 0;
        case '>': return a > b ? 1 : 0;
        case '+': return a + b;
        case '-': return a - b;
        case '*': return a * b;
        case '/': return b == 0 ? 0 : a / b;
        case '%': return b == 0 ? 0 : a % b;
        default: return 0;
      }
    }
  }

  /** Reads a TEXT byte by byte, so that the byte at which it gives up is the FAULT. */
  private static final class Reader {
    private static final int MOST_OPEN = 5;
    private static final int MOST_DIGITS = 4;
    private static final int COMPARING = 3;
    final Text made = new Text();
    private final int[] pending = new int[MOST_BYTES];
    private int pends = 0;
    private int open = 0;
    private int number = 0;
    private int digits = 0;
    private boolean operandDue = true;

    /** The FAULT of these bytes; -1 if they are a TEXT, which is the one made then. */
    int read(int[] bytes, int length, String names) {
      made.length = 0;
      pends = 0;
      open = 0;
      digits = 0;
      operandDue = true;
      for (int place = 0; place < length; place++) {
        if (!goesOnWith(at(bytes, place), names)) {
          return place;
        }
      }
      endNumber();
      if (operandDue || open > 0) {
        return length;
      }
      settle(0);
      return -1;
    }

    private boolean goesOnWith(int next, String names) {
      boolean digit = within(next, '0', '9');
      if (digit && digits > 0 && digits < MOST_DIGITS) {
        number = number * 10 + next - '0';
        digits++;
        return true;
      }
      endNumber();
      if (!operandDue) {
        return next == ')' ? closes() : joins(next);
      }
      if (next == '!' || next == '(') {
        return opens(next);
      }
      if (digit) {
        number = next - '0';
        digits = 1;
        return true;
      }
      int name = names.indexOf((char) next);
      if (name >= 0) {
        endOperand(-1 - name);
      }
      return name >= 0;
    }

    private boolean opens(int sign) {
      if (open >= MOST_OPEN) {
        return false;
      }
      open++;
      push(sign);
      return true;
    }

    private boolean closes() {
      settle(0);
      if (pends == 0) {
        return false;
      }
      pends--;
      open--;
      settleNots();
      return true;
    }

    private boolean joins(int sign) {
      int rank = rankOf(sign);
      if (rank == 0) {
        return false;
      }
      settle(rank);
      if (rank == COMPARING && rankOf(top()) == COMPARING) {
        return false;
      }
      settle(rank - 1);
      push(sign);
      operandDue = true;
      return true;
    }

    /** Only the byte behind a NUMBER, or the end, tells that it is whole. */
    private void endNumber() {
      if (digits > 0) {
        digits = 0;
        endOperand(number);
      }
    }

    private void endOperand(int item) {
      made.add(item);
      settleNots();
      operandDue = false;
    }

    /** The operators that still pend and bind closer than a rank come to the TEXT. */
    private void settle(int rank) {
      while (pends > 0 && rankOf(top()) > rank) {
        made.add(Text.OPERATOR + top());
        pends--;
      }
    }

    /** Each ! ahead of an operand that is whole is whole, too. */
    private void settleNots() {
      while (pends > 0 && top() == '!') {
        made.add(Text.OPERATOR + '!');
        pends--;
        open--;
      }
    }

    private void push(int sign) {
      exchange(pending, pends, sign);
      pends = Math.min(MOST_BYTES, pends + 1);
    }

    private int top() {
      return at(pending, pends - 1);
    }

    /** How close an operator binds; 0 if it is none between two operands. */
    private static int rankOf(int sign) {
      switch (sign) {
        case '|': return 1;
        case '&': return 2;
        case '<': case '=': case '>': return COMPARING;
        case '+': case '-': return 4;
        case '*': case '/': case '%': return 5;
        default: return 0;
      }
    }
  }

  /** FALLS' WAYS: how many rows of D lead to each LEAN, and how many to a fall. */
  private static final class Rows {
    // Euclid's way needs less than fifty for any two of these counts.
    private static final int MOST_DIVISIONS = 100;
    long fallen = 0;
    long all = 1;
    private final long[] upright = new long[2 * FARTHEST_LEAN + 1];
    private final long[] after = new long[2 * FARTHEST_LEAN + 1];

    /** All rows for the next n TENTHS of a world, which goes on through them as if it never fell. */
    void follow(World world, int n) {
      fallen = 0;
      all = 1;
      clear(upright);
      bring(upright, world.child[LEAN], 1);
      for (int i = 0; i < n; i++) {
        Gait now = world.gaitOf(world.child[NOW]);
        boolean step = world.isStep(now);
        long many = 2 * now.sways + 1;
        all *= many;
        fallen = fallen * many + spread(world, now, step);
        System.arraycopy(after, 0, upright, 0, upright.length);
        if (step) {
          world.stepOn(now);
        }
        world.goOn();
      }
    }

    /** One TENTH by each D; tells how many rows fall in it. */
    private long spread(World world, Gait now, boolean step) {
      long falls = 0;
      clear(after);
      for (int i = 0; i < upright.length; i++) {
        if (upright[i] == 0) {
          continue;
        }
        for (int d = -now.sways; d <= now.sways; d++) {
          int lean = world.leant(i - FARTHEST_LEAN, d);
          if (!within(lean, -FARTHEST_LEAN, FARTHEST_LEAN)) {
            falls += upright[i];
          } else {
            bring(after, step ? world.caught(lean, now) : lean, upright[i]);
          }
        }
      }
      return falls;
    }

    private static void clear(long[] counts) {
      for (int i = 0; i < counts.length; i++) {
        counts[i] = 0;
      }
    }

    private static void bring(long[] counts, int lean, long more) {
      int i = lean + FARTHEST_LEAN;
      if (i >= 0 && i < counts.length) {
        counts[i] += more;
      }
    }

    /** A part of the fraction of fallen rows, in lowest terms. */
    long lowest(long part) {
      long divisor = all;
      long rest = fallen;
      for (int i = 0; i < MOST_DIVISIONS && rest != 0; i++) {
        long next = divisor % rest;
        divisor = rest;
        rest = next;
      }
      return divisor == 0 ? part : part / divisor;
    }
  }

  /** One VOICE as it is worked out, with the BODIES as they begin. */
  private static final class Speech {
    private static final int DEEPEST = 30;
    final int[] begun = new int[MOST_BODIES];
    int count = 0;
    boolean parted = false;
    private int kind;
    private int number;
    private int m;

    int answer(Goings goings, int going, int voice, int x) {
      count = 0;
      parted = false;
      kind = at(goings.kinds, going);
      number = going;
      m = at(goings.numbers, going);
      return say(this, kind, voice, x, 0);
    }

    /** A VOICE by the BODY in a KIND, or in the next KIND above that has one. */
    private static int say(Speech speech, int from, int voice, int x, int depth) {
      if (speech.parted || depth >= DEEPEST) {
        return 0;
      }
      int home = from;
      for (int i = 0; i < KINDS && at(BODIES, home * VOICES + voice) == 0; i++) {
        home = at(KIND_ABOVE, home);
      }
      int body = at(BODIES, home * VOICES + voice);
      speech.begin(body);
      int above = at(KIND_ABOVE, home);
      int deeper = depth + 1;
      switch (body) {
        case 10: return x + speech.number;
        case 11: return say(speech, speech.kind, LEANS_VOICE, x, deeper) * 2;
        case 12: return say(speech, speech.kind, STEPS_VOICE, x, deeper) - speech.m;
        case 13: return speech.divided(x, speech.m - speech.number);
        case 20: return say(speech, above, LEANS_VOICE, x, deeper) - 3;
        case 21: return say(speech, above, LEARNS_VOICE, x, deeper)
            + say(speech, speech.kind, STEPS_VOICE, 1, deeper);
        case 30: return 0 - say(speech, above, STEPS_VOICE, x, deeper);
        case 40: return say(speech, above, FALLS_VOICE, x / 2, deeper);
        case 50: return say(speech, above, LEANS_VOICE, x, deeper) * 3;
        case 51: return say(speech, above, FALLS_VOICE, x, deeper) ^ speech.number;
        case 60: return say(speech, above, STEPS_VOICE, x + 1, deeper);
        case 70: return 4;
        case 71: return say(speech, above, STEPS_VOICE, x, deeper) + speech.m;
        default: return 0;
      }
    }

    private void begin(int body) {
      if (count < MOST_BODIES) {
        exchange(begun, count, body);
        count++;
      }
    }

    private int divided(int x, int by) {
      if (by == 0) {
        parted = true;
        return 0;
      }
      return x / by;
    }
  }

  /** A SHEET; without bits it is missing. */
  private static final class Sheet {
    final int[] numbers = new int[MOST_NUMBERS];
    int bits = 0;
    int length = 0;

    void begin(int newBits, int newLength) {
      bits = newBits;
      length = held(newLength, 0, MOST_NUMBERS);
      for (int i = 0; i < numbers.length; i++) {
        numbers[i] = 0;
      }
    }

    /** Whether n numbers stand here from number i on; asked so that no sum wraps. */
    boolean has(int i, int n) {
      return i >= 0 && n >= 0 && i <= length && n <= length - i;
    }

    int lowestBits(int v) {
      return bits == 8 ? (byte) v : bits == 16 ? (short) v : v;
    }
  }
}

/** Each promise by answers worked out by hand: ordinary inputs, the edges, wrong inputs. */
public final class PromisesTest {
  private static final int BEYOND = Due.BEYOND;
  private static final int NONE = Due.NONE;
  private static final int STATE = Due.STATE;
  private static final int FULL = Due.FULL;
  private static final int KIND = Due.KIND;
  private static final int PARTED = Due.PARTED;
  private static final int MIN = Integer.MIN_VALUE;
  private static final int MAX = Integer.MAX_VALUE;

  private PromisesTest() {}

  public static void main(String[] args) {
    aNewObject();
    floor();
    hold();
    holdIs();
    setHold();
    set();
    is();
    nearest();
    going();
    goingIs();
    as();
    setGoing();
    feed();
    text();
    textsWorth();
    textsFaults();
    untell();
    tenths();
    steps();
    falls();
    days();
    seed();
    then();
    ways();
    waysByGoings();
    waysBySteps();
    waysByHolds();
    way();
    gaps();
    pad();
    stand();
    go();
    voice();
    body();
    bodyOfParted();
    sheet();
    put();
    move();
    holds();
    off();
    guess();
    image();
    restore();
    tell();
    check();
    count();
    told();
    Due.end();
  }

  private static void due(String call, long got, long want) {
    Due.due(call, got, want);
  }

  /** One FREE GOING of 60 TENTHS, and no SWAY: each D is 0. */
  private static FirstSteps steady() {
    FirstSteps x = new FirstSteps();
    x.set(3, 0);
    x.going(300, 60);
    return x;
  }

  private static FirstSteps withHolds(int... cells) {
    FirstSteps x = new FirstSteps();
    for (int cell : cells) {
      x.hold(cell, 10);
    }
    return x;
  }

  private static void feed(FirstSteps x, String text) {
    for (int i = 0; i < text.length(); i++) {
      x.feed(text.charAt(i), 1);
    }
  }

  private static int tell(FirstSteps x, int use, String text) {
    feed(x, text);
    return x.text(use);
  }

  private static void aNewObject() {
    Due.part("1 a new object");
    FirstSteps x = new FirstSteps();
    int[] child = {0, 0, 8, 4, 10, 0, 0, 0, 0, 0, 0, 0, 0, 0};
    for (int i = 0; i < child.length; i++) {
      due("is " + i, x.is(i), child[i]);
    }
    for (int i = 0; i < 5; i++) {
      due("count " + i, x.count(i), 0);
    }
    due("z", x.count(5), 1);
    for (int i = 0; i < 10; i++) {
      due("slip", x.floor(i, 0, 0), 0);
      due("slope", x.floor(i, 1, 0), 0);
    }
    for (int k = 1; k <= 6; k++) {
      due("told " + k, x.told(k), 0);
    }
    due("texts", x.untell(0) + x.untell(1), 0);
    due("nearest", x.nearest(), NONE);
    due("restore", x.restore(), NONE);
    due("body", x.body(0), NONE);
    for (int i = 0; i < 4; i++) {
      due("a sheet", x.put(i, 0, 0), NONE);
    }
    due("a first hold", x.hold(0, 0), 0);
    due("a first going", x.going(0, 1), 0);
    due("a first image", x.image(), 1);
  }

  private static void floor() {
    Due.part("2 floor");
    FirstSteps x = new FirstSteps();
    due("slip", x.floor(0, 0, 9), 0);
    due("slip again", x.floor(0, 0, 0), 9);
    due("slope", x.floor(0, 1, -9), 0);
    due("slope again", x.floor(0, 1, 9), -9);
    due("slope stays", x.floor(0, 1, 1), 9);
    due("slip stays", x.floor(0, 0, 3), 0);
    due("the last", x.floor(9, 1, 5), 0);
    int[][] wrong = {{-1, 0, 0}, {10, 0, 0}, {0, -1, 0}, {0, 2, 0}, {0, 0, -1}, {0, 0, 10}, {0, 1, -10}, {0, 1, 10},
        {MIN, 0, 0}, {MAX, 0, 0}, {0, MIN, 0}, {0, 0, MAX}};
    for (int[] w : wrong) {
      due("wrong", x.floor(w[0], w[1], w[2]), BEYOND);
    }
    due("told", x.told(1), wrong.length);
    due("unchanged", x.floor(0, 0, 3), 3);
    FirstSteps y = steady();
    y.floor(0, 1, 5);
    y.set(0, 9);
    due("the slope of its floor", y.then(1, 1), 5);
    y.set(0, 10);
    due("no slope there", y.then(1, 1), 0);
  }

  private static void hold() {
    Due.part("3 hold");
    FirstSteps x = new FirstSteps();
    due("first", x.hold(0, 0), 0);
    due("in the same cell", x.hold(0, 99), 1);
    due("last cell", x.hold(99, 99), 2);
    due("hard", x.holdIs(1, 1), 99);
    due("not padded", x.holdIs(1, 2), 0);
    int[][] wrong = {{-1, 0}, {100, 0}, {0, -1}, {0, 100}, {MIN, MIN}};
    for (int[] w : wrong) {
      due("wrong", x.hold(w[0], w[1]), BEYOND);
    }
    for (int i = 3; i < 8; i++) {
      due("another", x.hold(i, i), i);
    }
    due("a ninth", x.hold(1, 1), FULL);
    due("a ninth, wrong", x.hold(100, 1), BEYOND);
    due("how many", x.count(0), 8);
    due("told full", x.told(4), 1);
  }

  private static void holdIs() {
    Due.part("4 holdIs");
    FirstSteps x = withHolds(28, 29);
    x.set(0, 20);
    due("cell", x.holdIs(0, 0), 28);
    due("hard", x.holdIs(0, 1), 10);
    due("padded", x.holdIs(0, 2), 0);
    due("at hand", x.holdIs(0, 3), 1);
    due("not at hand", x.holdIs(1, 3), 0);
    x.set(0, 37);
    due("at hand behind", x.holdIs(1, 3), 1);
    due("not at hand behind", x.holdIs(0, 3), 0);
    x.set(2, 9);
    due("by reach", x.holdIs(0, 3), 1);
    int[][] wrong = {{-1, 0}, {2, 0}, {0, -1}, {0, 4}, {MIN, 0}, {7, 3}, {MAX, MAX}};
    for (int[] w : wrong) {
      due("wrong", x.holdIs(w[0], w[1]), BEYOND);
    }
  }

  private static void setHold() {
    Due.part("5 setHold");
    FirstSteps x = withHolds(28, 29);
    due("cell", x.setHold(0, 0, 99), 28);
    due("hard", x.setHold(0, 1, 0), 10);
    due("padded", x.setHold(0, 2, 1), 0);
    due("padded again", x.setHold(0, 2, 0), 1);
    due("is cell", x.holdIs(0, 0), 99);
    due("is hard", x.holdIs(0, 1), 0);
    due("the other one", x.holdIs(1, 0), 29);
    int[][] wrong = {{-1, 0, 0}, {2, 0, 0}, {0, -1, 0}, {0, 3, 0}, {0, 0, -1}, {0, 0, 100}, {0, 1, -1}, {0, 1, 100},
        {0, 2, -1}, {0, 2, 2}};
    for (int[] w : wrong) {
      due("wrong", x.setHold(w[0], w[1], w[2]), BEYOND);
    }
    due("unchanged", x.holdIs(0, 0), 99);
  }

  private static void set() {
    Due.part("6 set");
    FirstSteps x = new FirstSteps();
    int[] was = {0, 0, 8, 4, 10, 0, 0};
    int[] least = {0, -99, 1, 0, 0, 0, 0};
    int[] most = {99, 99, 30, 9, 50, 60, 9999};
    for (int i = 0; i < 7; i++) {
      due("to the most " + i, x.set(i, most[i]), was[i]);
      due("above", x.set(i, most[i] + 1), BEYOND);
      due("to the least " + i, x.set(i, least[i]), most[i]);
      due("below", x.set(i, least[i] - 1), BEYOND);
      due("is", x.is(i), least[i]);
    }
    due("what below", x.set(-1, 0), BEYOND);
    due("what above", x.set(7, 0), BEYOND);
    due("what far", x.set(MAX, 0), BEYOND);
    due("told", x.told(1), 17);
    due("no yards", x.is(10), 0);
  }

  private static void is() {
    Due.part("7 is");
    FirstSteps x = steady();
    due("now", x.is(11), 0);
    due("left", x.is(12), 60);
    x.hold(2, 30);
    x.tenths(3);
    due("cell", x.is(0), 2);
    due("steps", x.is(8), 1);
    due("yards", x.is(10), 2);
    due("left", x.is(12), 57);
    x.set(1, -99);
    x.tenths(1);
    due("lean", x.is(1), 0);
    due("falls", x.is(7), 1);
    due("bumps", x.is(9), 30);
    due("learned", x.is(6), 4);
    x.days(2);
    due("days", x.is(13), 2);
    due("below", x.is(-1), BEYOND);
    due("above", x.is(14), BEYOND);
    due("z is not told", x.is(MAX), BEYOND);
  }

  private static void nearest() {
    Due.part("8 nearest");
    FirstSteps x = withHolds(90, 50, 40, 50);
    due("far away", x.nearest(), 2);
    x.set(0, 45);
    due("of several the least", x.nearest(), 1);
    x.set(0, 44);
    due("ahead", x.nearest(), 2);
    x.set(0, 99);
    due("behind", x.nearest(), 0);
    FirstSteps y = new FirstSteps();
    due("none", y.nearest(), NONE);
    due("told", y.told(2), 1);
  }

  private static void going() {
    Due.part("9 going");
    FirstSteps x = new FirstSteps();
    int[][] wrong = {{-1, 1}, {700, 1}, {0, 0}, {0, 61}, {MIN, 1}, {0, MAX}};
    for (int[] w : wrong) {
      due("wrong", x.going(w[0], w[1]), BEYOND);
    }
    due("first", x.going(699, 60), 0);
    due("now", x.is(11), 0);
    due("left", x.is(12), 60);
    due("kind", x.goingIs(0, 0), 6);
    due("m", x.goingIs(0, 1), 99);
    due("second", x.going(0, 1), 1);
    due("left stays", x.is(12), 60);
    x.tenths(60);
    due("the next comes", x.is(11), 1);
    due("with all its tenths", x.is(12), 1);
    x.tenths(1);
    due("the first again", x.is(11), 0);
    due("with all its tenths again", x.is(12), 60);
    for (int i = 2; i < 8; i++) {
      due("another", x.going(100 * (i - 1), i), i);
    }
    due("a ninth", x.going(0, 1), FULL);
    due("a ninth, wrong", x.going(0, 0), BEYOND);
    due("how many", x.count(1), 8);
  }

  private static void goingIsOf(FirstSteps x, int going, int sways, int stride, int pace, int grip) {
    due("sways of " + going, x.goingIs(going, 3), sways);
    due("stride of " + going, x.goingIs(going, 4), stride);
    due("pace of " + going, x.goingIs(going, 5), pace);
    due("catch of " + going, x.goingIs(going, 6), grip);
  }

  private static void goingIs() {
    Due.part("10 goingIs");
    FirstSteps x = new FirstSteps();
    for (int kind = 0; kind < 7; kind++) {
      x.going(100 * kind + 74 + kind, 10 + kind);
      due("kind", x.goingIs(kind, 0), kind);
      due("m", x.goingIs(kind, 1), 74 + kind);
      due("tenths", x.goingIs(kind, 2), 10 + kind);
    }
    x.set(3, 7);
    x.set(5, 11);
    x.set(6, 399);
    due("learned by 100, cut", x.goingIs(0, 6), 15);
    x.set(6, 300);
    x.floor(0, 1, -4);
    // 10 and 11 by 4 and 300 by 100: 15
    goingIsOf(x, 0, 7, 0, 0, 15);
    goingIsOf(x, 1, 7, 0, 0, 15);
    goingIsOf(x, 2, 7, 1, 3, 15);
    goingIsOf(x, 3, 7, 2, 3, 15);
    goingIsOf(x, 4, 9, 2, 3, 15);
    goingIsOf(x, 5, 7, 2, 3, 7);
    goingIsOf(x, 6, 0, 0, 0, 15);
    x.hold(9, 0);
    goingIsOf(x, 1, 7, 0, 0, 15);
    x.set(0, 1);
    goingIsOf(x, 0, 7, 0, 0, 15);
    goingIsOf(x, 1, 2, 1, 4, 35);
    goingIsOf(x, 2, 2, 1, 4, 35);
    goingIsOf(x, 3, 7, 2, 3, 15);
    x.set(3, 5);
    due("m by 25", x.goingIs(4, 3), 8);
    x.setGoing(4, 1, 75);
    due("m by 25", x.goingIs(4, 3), 8);
    x.setGoing(4, 1, 74);
    due("m by 25, cut", x.goingIs(4, 3), 7);
    x.set(0, 10);
    due("no slope there", x.goingIs(5, 6), 15);
    x.set(4, 0);
    x.set(5, 0);
    x.set(6, 0);
    x.set(0, 0);
    due("below 0", x.goingIs(5, 6), -8);
    int[][] wrong = {{-1, 0}, {7, 0}, {0, -1}, {0, 7}, {MAX, 0}};
    for (int[] w : wrong) {
      due("wrong", x.goingIs(w[0], w[1]), BEYOND);
    }
  }

  private static void as() {
    Due.part("11 as");
    FirstSteps x = new FirstSteps();
    for (int kind = 0; kind < 7; kind++) {
      x.going(100 * kind + 10 + kind, 1);
    }
    String[] under = {"0", "01", "012", "03", "034", "035", "06"};
    int wrong = 0;
    for (int kind = 0; kind < 7; kind++) {
      for (int as = 0; as < 7; as++) {
        boolean is = under[kind].indexOf('0' + as) >= 0;
        wrong += is ? 0 : 1;
        due(kind + " as " + as, x.as(kind, as), is ? 10 + kind : KIND);
      }
    }
    due("told", x.told(5), wrong);
    due("no such going", x.as(7, 0), BEYOND);
    due("no such going", x.as(-1, 0), BEYOND);
    due("no such kind", x.as(0, 7), BEYOND);
    due("no such kind", x.as(0, -1), BEYOND);
  }

  private static void setGoing() {
    Due.part("12 setGoing");
    FirstSteps x = new FirstSteps();
    x.going(305, 9);
    due("kind", x.setGoing(0, 0, 6), 3);
    due("kind again", x.setGoing(0, 0, 0), 6);
    due("m", x.setGoing(0, 1, 99), 5);
    due("m again", x.setGoing(0, 1, 0), 99);
    due("tenths stay", x.goingIs(0, 2), 9);
    int[][] wrong = {{-1, 0, 0}, {1, 0, 0}, {0, -1, 0}, {0, 2, 0}, {0, 0, -1}, {0, 0, 7}, {0, 1, -1}, {0, 1, 100}};
    for (int[] w : wrong) {
      due("wrong", x.setGoing(w[0], w[1], w[2]), BEYOND);
    }
    x.tenths(2);
    x.setGoing(0, 0, 3);
    due("what was done of it counts for its pace", x.then(1, 8), 1);
  }

  private static void feed() {
    Due.part("13 feed");
    FirstSteps x = new FirstSteps();
    due("n 0", x.feed(0, 0), BEYOND);
    due("n 9", x.feed(0, 9), BEYOND);
    due("n below", x.feed(0, MIN), BEYOND);
    // 7-2+ and, of the next word, 1 alone
    due("four", x.feed(0x2b322d37L, 4), 4);
    due("the lowest alone", x.feed(-256L + '1', 1), 5);
    due("a text", x.text(0), 1);
    due("its worth", worth(x), 6);
    x.feed(0x3130303030303030L, 8);
    due("a high byte", x.text(0), -14);
    due("high bytes of all eight", x.feed(0xe9_2b_31_2b_31_2b_31_31L, 8), 8);
    due("the eighth", x.text(0), -17);
    for (int i = 1; i <= 7; i++) {
      due("eight more", x.feed(0, 8), 8 * i);
    }
    due("too many", x.feed(0, 5), FULL);
    due("n 9 ahead of full", x.feed(0, 9), BEYOND);
    due("unchanged", x.count(2), 56);
    due("sixty", x.feed(0, 4), 60);
    due("one more", x.feed(0, 1), FULL);
  }

  /** What the text of LEARNS gives at a fall. */
  private static long worth(FirstSteps x) {
    if (x.count(1) == 0) {
      x.going(0, 1);
    }
    x.set(1, 99);
    x.set(3, 0);
    x.set(6, 0);
    x.tenths(1);
    return x.is(6);
  }

  private static void text() {
    Due.part("14 text");
    FirstSteps x = new FirstSteps();
    feed(x, "7");
    due("no such use", x.text(2), BEYOND);
    due("no such use", x.text(-1), BEYOND);
    due("the tape stays", x.count(2), 1);
    due("a text", x.text(0), 1);
    due("the tape is empty", x.count(2), 0);
    due("its worth", worth(x), 7);
    due("in place of one ahead", tell(x, 0, "8"), 1);
    due("its worth", worth(x), 8);
    due("a fault", tell(x, 0, "9+"), -12);
    due("the tape is empty", x.count(2), 0);
    due("the one ahead stays", worth(x), 8);
    due("no error", x.told(1), 2);
    FirstSteps y = new FirstSteps();
    y.hold(0, 60);
    y.set(5, 17);
    y.going(300, 60);
    y.tenths(7);
    // falls 1, steps 2, weeks 17, how hard 60
    tell(y, 0, "f");
    due("f", worth(y), 1);
    tell(y, 0, "f");
    due("f", worth(y), 2);
    tell(y, 0, "s");
    due("s", worth(y), 2);
    tell(y, 0, "w");
    due("w", worth(y), 17);
    tell(y, 0, "h");
    due("h", worth(y), 60);
    y.setHold(0, 2, 1);
    due("h padded", worth(y), 0);
    tell(y, 0, "l+3");
    y.set(1, 99);
    y.set(6, 200);
    y.tenths(1);
    due("l", y.is(6), 403);
    dares();
  }

  private static void dares() {
    Due.part("14 text of dares");
    FirstSteps x = withHolds(10, 20);
    due("without", x.gaps(1), 0);
    String[] not = {"0", "g-10", "r-8", "w", "l", "g<10", "g=9"};
    String[] dared = {"5", "0-5", "g", "r", "g=10", "r=8", "w=0", "l=0"};
    for (String text : not) {
      due(text, tell(x, 1, text), 1);
      due(text + " dares", x.gaps(1), 0);
    }
    for (String text : dared) {
      due(text, tell(x, 1, text), 1);
      due(text + " dares", x.gaps(1), 1);
    }
    x.set(5, 12);
    x.set(6, 345);
    tell(x, 1, "w=12&l=345");
    due("w and l", x.gaps(1), 1);
  }

  private static void textsWorth() {
    Due.part("14 what texts are worth");
    String[] texts = {"1+2*3", "10-3-2", "100/7/2", "17%10%4", "1|0&0", "1+1=2", "2*3<7", "!0+1", "!(1-1)*5", "!!7",
        "5&0|3", "5/0", "5%0", "2|0", "0|0", "5&3", "2&0", "3>2&2>1", "2<1", "2>2", "2=3", "9999-9000", "9999-9001",
        "0-5", "9999*9999*22<0", "9999*9999*22>0", "(0-7)/2+10", "(0-7)%4+10", "7/(0-2)+10", "7%(0-4)", "0007",
        "(1+2)*3", "2*(3+4)", "2+3*4-5", "8-2*3", "!5", "!0", "!!!0", "1<2|0", "(1<2)<2", "3-!2", "20/3*3", "2*7/4",
        "7", "1&!0&1", "0|!1|0", "1+2<3+1", "(((((6)))))", "!!!!!0", "2|1/0", "6=6", "0&1|1&1", "3>2", "9999", "1000",
        "0|3", "3&4", "4<5", "5=5", "(2|0)*3", "(2&3)*4", "!(0|2)+5", "(2<3)+(3>2)*2", "((2))+((0|5))"};
    int[] worths = {7, 5, 7, 3, 1, 1, 1, 2, 5, 1,
        1, 0, 0, 1, 0, 1, 0, 1, 0, 0, 0, 999, 998,
        0, 1, 0, 7, 7, 7, 3, 7,
        9, 14, 9, 2, 0, 1, 1, 1, 1, 3, 18, 3,
        7, 1, 0, 1, 6, 1, 1, 1, 1, 1, 999, 999,
        1, 1, 1, 1, 3, 4, 5, 3, 3};
    due("as many", worths.length, texts.length);
    for (int i = 0; i < texts.length; i++) {
      FirstSteps x = new FirstSteps();
      due(texts[i], tell(x, 0, texts[i]), 1);
      due(texts[i] + " is worth", worth(x), worths[i]);
    }
    FirstSteps x = new FirstSteps();
    StringBuilder longest = new StringBuilder("11");
    for (int i = 0; i < 29; i++) {
      longest.append("+1");
    }
    due("sixty bytes", tell(x, 0, longest.toString()), 1);
    due("sixty bytes are worth", worth(x), 40);
  }

  private static void textsFaults() {
    Due.part("14 faults");
    String[] texts = {"", "f+", "f+3|", "x", "g", "12345", "1 2", "f<s<w", "f<s+1<w", "f=s>w", ")", "f)", "(f", "()",
        "(f))", "((((((", "!!!!!!", "!(!(!(", "!f!f", "ff", "3f", "f3", "f==s", "=", "f|", "f||s", "-f", "(((((f))))",
        "(((((f+(", "!", "(", "f+)", "(f<s<w)", "f\u0000", "\u00e9", "f&", "f!", "f(", " f", "f ", "F", "f<(s<w<l)",
        "(1|2", "!(f", "f*/s", "0001+00002"};
    int[] faults = {0, 2, 4, 0, 0, 4, 1, 3, 5, 3, 0, 1, 2, 1,
        3, 5, 5, 5, 2, 1, 1, 1, 2, 0, 2, 2, 0, 10,
        7, 1, 1, 2, 4, 1, 0, 2, 1, 1, 0, 1, 0, 6,
        4, 3, 2, 9};
    due("as many", faults.length, texts.length);
    FirstSteps x = new FirstSteps();
    for (int i = 0; i < texts.length; i++) {
      due("the fault of " + texts[i], tell(x, 0, texts[i]), -10 - faults[i]);
    }
    due("names of the other use", tell(x, 1, "f"), -10);
    due("names of the other use", tell(x, 1, "g+s"), -12);
    due("names of the other use", tell(x, 1, "h"), -10);
    due("names of the other use", tell(x, 0, "f+r"), -12);
    String[] whole = {"(f<s)<w", "f<s&w>l", "!!!!!f", "!(!(!f&!f))", "(((((f)))))", "f+(((((s)))))+(((((w)))))",
        "!f&!s&!w&!l&!h&!f&!s", "f<s|f=s|f>s"};
    for (String text : whole) {
      due(text, tell(x, 0, text), 1);
    }
  }

  private static void untell() {
    Due.part("15 untell");
    FirstSteps x = new FirstSteps();
    due("none", x.untell(0), 0);
    tell(x, 0, "77");
    due("of the other use", x.untell(1), 0);
    due("its worth", worth(x), 77);
    due("there was", x.untell(0), 1);
    due("there is no more", x.untell(0), 0);
    due("without", worth(x), 5);
    tell(x, 1, "1");
    due("dares", x.untell(1), 1);
    due("below", x.untell(-1), BEYOND);
    due("above", x.untell(2), BEYOND);
  }

  private static void tenths() {
    Due.part("16 tenths");
    FirstSteps x = new FirstSteps();
    due("no goings", x.tenths(1), STATE);
    due("beyond ahead of no goings", x.tenths(0), BEYOND);
    due("no draw", x.count(5), 1);
    x.going(0, 60);
    due("n 201", x.tenths(201), BEYOND);
    due("n below", x.tenths(MIN), BEYOND);
    due("no falls", x.tenths(1), 0);
    // z is 1103527590, the draw 4310654, its rest by 9 is 5, less 4
    due("z", x.count(5), 1103527590);
    due("lean", x.is(1), 1);
    x.set(3, 9);
    x.seed(1);
    x.set(1, 0);
    x.tenths(1);
    // the rest by 19 is 10, less 9
    due("lean by wider sways", x.is(1), 1);
    x.seed(-1);
    x.set(1, 0);
    x.tenths(1);
    // -1103502900, its draw (of 24 bits) 12466657, the rest by 19 is 8, less 9
    due("z below", x.count(5), -1103502900);
    due("lean", x.is(1), 12466657 % 19 - 9);
    FirstSteps y = steady();
    due("two hundred", y.tenths(200), 0);
    due("cells", y.is(0), 99);
    due("left", y.is(12), 40);
    y.set(1, 99);
    due("falls", y.tenths(1), 1);
    y.set(1, 99);
    due("falls again", y.tenths(1), 2);
  }

  private static void steps() {
    Due.part("16 steps");
    FirstSteps x = steady();
    x.set(1, 50);
    due("its fifth more", x.then(1, 1), 60);
    due("twice", x.then(2, 1), 72);
    due("a step", x.then(3, 1), 76);
    due("steps", x.then(3, 8), 1);
    due("stride", x.then(3, 0), 2);
    due("no step ahead of it", x.then(2, 8), 0);
    due("the next at the sixth", x.then(5, 8), 1);
    x.set(1, -50);
    due("backward", x.then(3, 1), -76);
    x.set(1, -4);
    due("a fifth, cut", x.then(1, 1), -4);
    x.set(1, 4);
    due("0 at most", x.then(3, 1), 0);
    x.set(1, -4);
    due("0 at least", x.then(3, 1), 0);
    x.set(1, 50);
    x.floor(0, 0, 3);
    due("slip, twice", x.then(3, 1), 82);
    x.floor(0, 0, 9);
    due("no catch below 0", x.then(3, 1), 86);
    for (int lean = -1; lean <= 1; lean++) {
      x.set(1, lean);
      due("no catch at all", x.then(3, 1), lean);
    }
    x.floor(0, 0, 0);
    x.set(1, 0);
    x.floor(0, 1, 5);
    due("a slope", x.then(2, 1), 11);
    due("a step on it", x.then(3, 1), 8);
    x.set(0, 98);
    due("99 at most", x.then(3, 0), 99);
    due("yards as it went", x.then(3, 10), 1);
    due("steps go on", x.then(9, 8), 3);
    due("no yards more", x.then(9, 10), 1);
    FirstSteps y = new FirstSteps();
    y.set(3, 0);
    y.hold(0, 0);
    y.going(100, 9);
    y.going(300, 4);
    due("along a hold", y.then(8, 0), 2);
    due("paces begin with each going", y.then(11, 0), 2);
    due("paces begin with each going", y.then(12, 0), 4);
    due("now", y.then(12, 11), 1);
    due("left", y.then(12, 12), 1);
    due("and around", y.then(13, 11), 0);
    y.setGoing(0, 0, 6);
    due("sits", y.then(9, 8), 0);
    y.setGoing(0, 0, 0);
    due("goes", y.then(9, 8), 0);
  }

  private static void falls() {
    Due.part("16 falls");
    FirstSteps x = steady();
    x.set(1, 83);
    due("99 is no fall", x.then(1, 1), 99);
    x.set(1, -83);
    due("-99 is no fall", x.then(1, 1), -99);
    x.set(1, 84);
    due("100 is one", x.then(1, 7), 1);
    due("lean", x.then(1, 1), 0);
    x.set(1, -84);
    due("-100 is one", x.then(1, 7), 1);
    due("learned", x.then(1, 6), 5);
    due("no bumps", x.then(1, 9), 0);
    due("left", x.then(1, 12), 59);
    x.tenths(2);
    x.set(1, 99);
    due("no step in a fall", x.then(1, 8), x.is(8));
    due("nor a stride", x.then(1, 0), x.is(0));
    x.hold(9, 59);
    x.set(0, 0);
    due("not at hand", x.then(1, 9), 0);
    x.set(0, 1);
    due("at hand", x.then(1, 9), 59);
    due("learned by it", x.then(1, 6) - x.is(6), 3);
    x.setHold(0, 1, 60);
    due("learned by a harder one", x.then(1, 6) - x.is(6), 2);
    x.setHold(0, 2, 1);
    due("padded", x.then(1, 9), 0);
    due("learned by padded", x.then(1, 6) - x.is(6), 5);
    x.hold(1, 99);
    due("the nearest", x.then(1, 9), 99);
    due("learned by it", x.then(1, 6) - x.is(6), 1);
    x.set(6, 9998);
    due("9999 at most", x.then(1, 6), 9999);
    // Sitting on a slope of 9 the LEAN is 9, 19, 31, 46, 64, 85, and it falls with each seventh TENTH.
    FirstSteps y = steady();
    y.setGoing(0, 0, 6);
    y.floor(0, 1, 9);
    y.hold(0, 99);
    for (int i = 1; i <= 353; i++) {
      y.tenths(200);
    }
    due("falls", y.is(7), 353 * 200 / 7);
    due("bumps", y.is(9), 353 * 200 / 7 * 99);
    y.tenths(200);
    due("bumps at most", y.is(9), 999999);
    y.tenths(200);
    due("bumps at most", y.is(9), 999999);
    due("falls go on", y.is(7), 355 * 200 / 7);
  }

  private static void days() {
    Due.part("17 days");
    FirstSteps x = steady();
    due("n 0", x.days(0), BEYOND);
    due("n 61", x.days(61), BEYOND);
    x.going(300, 7);
    x.tenths(62);
    x.set(1, 5);
    due("six", x.days(6), 0);
    due("cell", x.is(0), 0);
    due("lean", x.is(1), 0);
    due("now", x.is(11), 0);
    due("left", x.is(12), 60);
    due("steps stay", x.is(8), 20);
    due("days", x.is(13), 6);
    due("the seventh", x.days(1), 1);
    due("eight weeks", x.days(60), 9);
    due("days", x.is(13), 67);
    x.set(5, 58);
    due("60 at most", x.days(60), 60);
    due("no draws", x.count(5), steadyDraws(62));
    for (int i = 0; i < 164; i++) {
      x.days(60);
    }
    due("days", x.is(13), 9967);
    due("above 9999", x.days(33), STATE);
    due("beyond ahead of it", x.days(61), BEYOND);
    due("unchanged", x.is(13), 9967);
    due("9999", x.days(32), 60);
    due("no more", x.days(1), STATE);
    FirstSteps y = new FirstSteps();
    due("without goings", y.days(7), 1);
    due("left", y.is(12), 0);
  }

  private static int steadyDraws(int n) {
    int z = 1;
    for (int i = 0; i < n; i++) {
      z = z * 1103515245 + 12345;
    }
    return z;
  }

  private static void seed() {
    Due.part("18 seed");
    FirstSteps x = new FirstSteps();
    due("was", x.seed(MIN), 1);
    due("was", x.seed(BEYOND), MIN);
    due("z", x.count(5), BEYOND);
    due("was", x.seed(MAX), BEYOND);
    due("no error", x.told(1), 0);
    x.going(0, 1);
    x.tenths(1);
    due("the next", x.count(5), MAX * 1103515245 + 12345);
  }

  private static void then() {
    Due.part("19 then");
    FirstSteps x = steady();
    x.going(0, 1);
    x.set(3, 4);
    due("n 0", x.then(0, 12), 60);
    due("ahead", x.then(1, 1), 1);
    due("nothing changes", x.is(1), 0);
    due("nor z", x.count(5), 1);
    due("two hundred", x.then(200, 12), 43);
    due("now", x.then(60, 11), 1);
    due("days", x.then(200, 13), 0);
    int ahead = x.then(150, 0);
    int falls = x.then(150, 7);
    x.tenths(150);
    due("cell as it comes", x.is(0), ahead);
    due("falls as they come", x.is(7), falls);
    int[][] wrong = {{-1, 0}, {201, 0}, {0, -1}, {0, 14}};
    for (int[] w : wrong) {
      due("wrong", x.then(w[0], w[1]), BEYOND);
    }
    FirstSteps y = new FirstSteps();
    y.set(1, 99);
    due("without goings", y.then(200, 1), 99);
  }

  private static void fraction(FirstSteps x, int n, long above, long below) {
    due("above by " + n, x.ways(n, 0), above);
    due("below by " + n, x.ways(n, 1), below);
  }

  private static void ways() {
    Due.part("20 ways");
    FirstSteps x = new FirstSteps();
    due("no goings", x.ways(1, 0), STATE);
    due("beyond ahead of it", x.ways(0, 0), BEYOND);
    x.going(0, 60);
    fraction(x, 8, 0, 1);
    x.set(1, 80);
    fraction(x, 1, 1, 9);
    x.set(1, 82);
    fraction(x, 1, 1, 3);
    x.set(1, -82);
    fraction(x, 1, 1, 3);
    x.set(1, 66);
    fraction(x, 1, 0, 1);
    fraction(x, 2, 10, 81);
    // 97 .. 99 are up behind the first, then each falls; those that fell count 9 times
    x.set(1, 80);
    fraction(x, 2, 1, 1);
    x.set(3, 0);
    fraction(x, 8, 1, 1);
    x.set(1, 20);
    fraction(x, 8, 0, 1);
    due("nothing changes", x.is(1), 20);
    due("no draw", x.count(5), 1);
    int[][] wrong = {{0, 0}, {9, 0}, {1, -1}, {1, 2}, {MIN, 0}};
    for (int[] w : wrong) {
      due("wrong", x.ways(w[0], w[1]), BEYOND);
    }
    due("told", x.told(1), 6);
  }

  private static void waysByGoings() {
    Due.part("20 ways by goings");
    FirstSteps x = new FirstSteps();
    x.set(3, 1);
    x.going(300, 3);
    x.going(475, 60);
    x.floor(0, 1, 9);
    x.floor(0, 0, 1);
    x.set(1, 37);
    // worked out row by row (support/Slow.java); the sways are 1, 1, 1, then 4
    Slow y = new Slow();
    y.s.sway = 1;
    y.going(300, 3);
    y.going(475, 60);
    y.floor(0, 1, 9);
    y.floor(0, 0, 1);
    y.s.lean = 37;
    for (int n = 1; n <= 6; n++) {
      fraction(x, n, y.ways(n, 0), y.ways(n, 1));
    }
    // two leans in one row: 67 is 80 behind the SAT tenth, then 96 and D
    FirstSteps sits = new FirstSteps();
    sits.going(600, 1);
    sits.going(0, 5);
    sits.set(1, 67);
    fraction(sits, 1, 0, 1);
    fraction(sits, 2, 1, 9);
    // 19 to the 8th rows, counted once by another program
    FirstSteps z = new FirstSteps();
    z.set(3, 9);
    z.set(4, 0);
    z.going(0, 60);
    fraction(z, 8, 14068046L, 16983563041L);
  }

  private static void waysBySteps() {
    Due.part("20 ways by steps");
    FirstSteps x = steady();
    x.set(0, 8);
    x.set(4, 0);
    x.set(1, 45);
    x.floor(0, 1, -9);
    x.floor(1, 1, 9);
    // 45 stays 45 on floor 0; the step of the third tenth comes to floor 1: 63, 84, then it falls
    fraction(x, 5, 0, 1);
    fraction(x, 6, 1, 1);
    x.set(0, 7);
    fraction(x, 8, 0, 1);
    x.set(0, 8);
    // caught by 4: 41 and then 58, 78, and 102
    x.set(4, 4);
    fraction(x, 5, 0, 1);
    fraction(x, 6, 1, 1);
    // caught by 10: 35, 51, 70, 93 less 10, 83 and 16 and 9
    x.set(4, 10);
    fraction(x, 6, 0, 1);
    fraction(x, 7, 1, 1);
    // caught by 20: 25, 39, 55, 75 less 20, 75, and 99 is not above 99
    x.set(4, 20);
    fraction(x, 8, 0, 1);
    // floor 1 slips: the second step catches by 10, 65, 87, 113
    x.floor(1, 0, 5);
    fraction(x, 7, 0, 1);
    fraction(x, 8, 1, 1);
    x.floor(1, 0, 0);
    // floor 0 slips: the first step catches by 2, 43, 60, 81, 106
    x.floor(0, 0, 9);
    fraction(x, 5, 0, 1);
    fraction(x, 6, 1, 1);
    due("no step", x.is(8), 0);
    due("no cell", x.is(0), 8);
    due("no tenth", x.is(12), 60);
  }

  /** A HOLD that comes AT HAND by a STEP, or is left behind, changes SWAYS and CATCH of the TENTHS behind it. */
  private static void waysByHolds() {
    Due.part("20 ways by holds");
    FirstSteps x = new FirstSteps();
    x.going(200, 60);
    x.hold(2, 50);
    x.set(2, 1);
    x.set(3, 3);
    x.set(4, 0);
    x.set(1, 45);
    x.floor(0, 1, -9);
    // not at hand: seven D each; the step of the third comes to cell 1, the sways are 1 then
    due("rows", x.goingIs(0, 3), 3);
    Slow y = new Slow();
    y.going(200, 60);
    y.hold(2, 50);
    y.set(2, 1);
    y.set(3, 3);
    y.set(4, 0);
    y.set(1, 45);
    y.floor(0, 1, -9);
    for (int lean = 45; lean < 90; lean += 3) {
      x.set(1, lean);
      y.set(1, lean);
      for (int n = 1; n <= 5; n++) {
        fraction(x, n, y.ways(n, 0), y.ways(n, 1));
      }
    }
  }

  private static void way() {
    Due.part("21 way");
    FirstSteps x = withHolds(30, 10, 18, 30, 39, 47);
    // reach 8: gaps up to 8 are dared
    due("to itself", x.way(0, 0), 1);
    due("in one cell", x.way(0, 3), 1);
    due("a gap of 8", x.way(1, 2), 1);
    due("back", x.way(2, 1), 1);
    due("a gap of 12", x.way(2, 0), 0);
    due("over it", x.way(1, 5), 0);
    due("back over it", x.way(5, 1), 0);
    due("a gap of 9", x.way(3, 4), 0);
    due("behind it", x.way(4, 5), 1);
    x.set(5, 2);
    due("weeks", x.way(3, 4), 1);
    due("over several", x.way(5, 0), 1);
    due("still not", x.way(1, 5), 0);
    x.set(6, 300);
    due("learned", x.way(1, 5), 1);
    x.set(6, 299);
    due("learned, cut", x.way(1, 5), 0);
    int[][] wrong = {{-1, 0}, {6, 0}, {0, -1}, {0, 6}};
    for (int[] w : wrong) {
      due("wrong", x.way(w[0], w[1]), BEYOND);
    }
  }

  private static void gaps() {
    Due.part("22 gaps");
    FirstSteps x = withHolds(30, 10, 18, 30, 39, 47);
    due("how many", x.gaps(0), 4);
    due("dared", x.gaps(1), 2);
    due("widest", x.gaps(2), 12);
    x.set(2, 11);
    due("dared", x.gaps(1), 3);
    due("widest", x.gaps(2), 12);
    x.set(2, 12);
    due("dared", x.gaps(1), 4);
    due("no widest", x.gaps(2), 0);
    due("below", x.gaps(-1), BEYOND);
    due("above", x.gaps(3), BEYOND);
    FirstSteps y = new FirstSteps();
    due("no holds", y.gaps(0) + y.gaps(1) + y.gaps(2), 0);
    y.hold(0, 0);
    due("one hold", y.gaps(0) + y.gaps(1) + y.gaps(2), 0);
    y.hold(99, 0);
    due("two holds", y.gaps(0), 1);
    due("the widest there is", y.gaps(2), 99);
    tell(y, 1, "g=99");
    due("dared", y.gaps(1), 1);
  }

  private static void pad() {
    Due.part("23 pad");
    FirstSteps x = steady();
    due("none", x.pad(5), NONE);
    due("beyond ahead of none", x.pad(201), BEYOND);
    x.hold(50, 10);
    x.hold(0, 90);
    x.hold(0, 95);
    due("n 0", x.pad(0), 0);
    due("no falls", x.pad(200), 0);
    x.set(1, 99);
    due("a fall", x.pad(1), 1);
    x.setHold(1, 2, 1);
    due("padded as it is", x.pad(1), 0);
    due("nothing changes", x.is(7), 0);
    due("nor is padded", x.holdIs(0, 2), 0);
    due("below", x.pad(-1), BEYOND);
    due("above", x.pad(201), BEYOND);
    FirstSteps y = withHolds(1, 2);
    due("without goings", y.pad(200), 0);
  }

  private static void stand() {
    Due.part("24 stand");
    FirstSteps x = withHolds(50, 99);
    due("without goings", x.stand(1, 60), 0);
    x.set(2, 1);
    x.set(3, 0);
    x.going(100, 60);
    due("n 0", x.stand(0, 0), 0);
    due("n 8", x.stand(0, 8), 0);
    due("n 12", x.stand(0, 12), 1);
    due("n 60", x.stand(0, 60), 1);
    due("nothing changes", x.holdIs(0, 0), 50);
    x.set(0, 49);
    due("by the other hold", x.stand(1, 16), 51);
    int[][] wrong = {{-1, 0}, {2, 0}, {0, -1}, {0, 61}};
    for (int[] w : wrong) {
      due("wrong", x.stand(w[0], w[1]), BEYOND);
    }
  }

  private static void go() {
    Due.part("25 go");
    FirstSteps x = new FirstSteps();
    due("no goings", x.go(5), STATE);
    due("beyond ahead of it", x.go(-1), BEYOND);
    x.set(3, 0);
    x.going(0, 60);
    due("n 0", x.go(0), 0);
    due("free", x.go(12), 3);
    due("nothing changes", x.goingIs(0, 0), 0);
    due("above", x.go(201), BEYOND);
    // A CATCH of 47 along the hold (65, less 18 by the slip) takes the LEAN of 46 in each fourth TENTH;
    // one of 27 without it lets it fall in each fifteenth, behind 8 YARDS.
    x.hold(0, 99);
    x.set(2, 30);
    x.set(4, 45);
    for (int floor = 0; floor < 10; floor++) {
      x.floor(floor, 0, 9);
      x.floor(floor, 1, 9);
    }
    due("along the hold", x.go(80), 1);
    due("free, until it falls", x.go(14), 3);
    x.set(1, 99);
    x.tenths(1);
    due("below 0, too", x.go(0), 0);
    weighed();
    FirstSteps y = new FirstSteps();
    y.set(3, 0);
    y.going(300, 2);
    y.going(300, 60);
    y.tenths(2);
    due("the going now alone", y.go(3), 3);
    due("now", y.is(11), 1);
    y.setGoing(1, 0, 6);
    due("of another kind", y.go(3), 3);
  }

  /**
   * FREE it goes two CELLS in three TENTHS, comes to FLOOR 1 with the fifteenth and falls there once, in the
   * thirtieth; GAPPED it goes one and does not fall by then.
   */
  private static void weighed() {
    FirstSteps x = steady();
    x.set(4, 45);
    x.floor(1, 0, 9);
    x.floor(1, 1, 9);
    due("yards free", x.then(39, 10), 24);
    due("a fall free", x.then(39, 7), 1);
    due("24 less 10 against 13", x.go(39), 3);
    due("22 less 10 against 12", x.go(36), 2);
  }

  private static FirstSteps speaking() {
    FirstSteps x = new FirstSteps();
    int[] goings = {7, 105, 209, 308, 406, 507, 603, 107};
    for (int km : goings) {
      x.going(km, 1);
    }
    return x;
  }

  private static void voice() {
    Due.part("26 voice");
    FirstSteps x = speaking();
    int[][] answers = {{7, 14, 7, 1}, {5, 10, 5, -1}, {6, -12, -21, 1}, {10, 20, 4, 1}, {33, 66, 32, 3},
        {12, 26, 11, 3}, {4, 11, 8, -2}};
    for (int going = 0; going < answers.length; going++) {
      for (int voice = 0; voice < 4; voice++) {
        due(going + " says " + voice, x.voice(going, voice, 7), answers[going][voice]);
      }
    }
    due("parted", x.voice(7, 3, 7), PARTED);
    due("told", x.told(6), 1);
    due("halves, cut", x.voice(3, 2, -7), (-3 + 3) * 2 - 8);
    due("quotients, cut", x.voice(0, 3, -20), -2);
    due("wraps", x.voice(0, 1, 2000000000), -294967296);
    due("no error", x.voice(0, 0, BEYOND), BEYOND);
    due("the least by -1", minByMinusOne(), MIN);
    due("not told", x.told(1), 0);
    int[][] wrong = {{-1, 0}, {8, 0}, {0, -1}, {0, 4}, {MAX, 0}};
    for (int[] w : wrong) {
      due("wrong", x.voice(w[0], w[1], 0), BEYOND);
    }
    due("told", x.told(1), wrong.length);
  }

  private static int minByMinusOne() {
    FirstSteps x = speaking();
    x.setGoing(3, 1, 2);
    return x.voice(3, 3, MIN);
  }

  private static void trace(FirstSteps x, int going, int voice, int... bodies) {
    x.voice(going, voice, 7);
    for (int i = 0; i < bodies.length; i++) {
      due(going + " says " + voice + ", body " + i, x.body(i), bodies[i]);
    }
    due("how many", x.count(4), bodies.length);
    due("no more", x.body(bodies.length), NONE);
  }

  private static void body() {
    Due.part("27 body");
    FirstSteps x = speaking();
    due("none", x.body(0), NONE);
    trace(x, 0, 0, 10);
    trace(x, 0, 2, 12, 11, 10);
    trace(x, 0, 3, 13);
    trace(x, 1, 1, 11, 20, 10);
    trace(x, 1, 3, 21, 13, 11, 20, 10);
    trace(x, 2, 2, 12, 30, 11, 20, 10);
    trace(x, 2, 3, 21, 13, 30, 11, 20, 10);
    trace(x, 3, 2, 40, 12, 11, 10);
    trace(x, 4, 2, 51, 40, 12, 11, 50, 10);
    trace(x, 5, 2, 40, 12, 60, 11, 10);
    trace(x, 6, 2, 12, 71, 11, 70);
    trace(x, 6, 0, 70);
    due("below", x.body(-1), NONE);
    due("far", x.body(MAX), NONE);
    int[][] wrong = {{-1, 0}, {8, 0}, {0, -1}, {0, 4}};
    for (int[] w : wrong) {
      x.voice(w[0], w[1], 0);
      due("an error ahead of any body leaves it", x.body(0), 70);
      due("and as many", x.count(4), 1);
    }
  }

  /** A voice() that PARTED is the latest one: what began in it is THE TRACE, the body that parted as the last. */
  private static void bodyOfParted() {
    Due.part("27 body, parted");
    int[][] begun = {{13}, {21, 13}, {21, 13}, {13}, {13}, {13}, {13}};
    FirstSteps x = new FirstSteps();
    for (int kind = 0; kind < begun.length; kind++) {
      x.going(100 * kind + kind, 1);
      due("first of all", x.voice(kind, 3, 9), PARTED);
      trace(x, kind, 3, begun[kind]);
    }
    trace(x, 4, 2, 51, 40, 12, 11, 50, 10);
    trace(x, 2, 3, 21, 13);
    x.voice(9, 3, 0);
    due("an error ahead of any body leaves it", x.body(1), 13);
    due("and as many", x.count(4), 2);
    due("each is told", x.told(6), 2 * begun.length + 1);
    x.image();
    trace(x, 3, 3, 13);
    x.restore();
    due("no image keeps it", x.count(4), 1);
    due("no image keeps it", x.body(0), 13);
    x.setGoing(2, 1, 4);
    trace(x, 2, 3, 21, 13, 30, 11, 20, 10);
  }

  private static void sheet() {
    Due.part("28 sheet");
    FirstSteps x = new FirstSteps();
    due("8 bits", x.sheet(0, 8, 24), 1);
    due("16 bits", x.sheet(3, 16, 0), 1);
    due("32 bits", x.sheet(1, 32, 1), 1);
    due("none in it", x.put(3, 0, 0), BEYOND);
    due("the last", x.put(0, 23, 5), 1);
    due("the first", x.put(0, 0, 2), 1);
    due("off", x.off(0), 7);
    due("anew", x.sheet(0, 8, 24), 1);
    due("all 0", x.off(0), 0);
    x.put(0, 23, 5);
    due("too many", x.sheet(0, 8, 25), BEYOND);
    due("below 0", x.sheet(0, 8, -1), STATE);
    due("far below 0", x.sheet(0, 8, MIN), STATE);
    due("far above", x.sheet(0, 8, MAX), BEYOND);
    due("unlike bits", x.sheet(0, 7, 3), BEYOND);
    due("unlike bits ahead of below 0", x.sheet(0, 64, -1), BEYOND);
    due("no such sheet ahead of below 0", x.sheet(4, 8, -1), BEYOND);
    due("no such sheet", x.sheet(-1, 8, 1), BEYOND);
    due("unchanged", x.off(0), 5);
    due("missing", x.sheet(0, 0, 5), 1);
    due("is missing", x.off(0), NONE);
    due("missing, n doesn't matter", x.sheet(1, 0, -1), 1);
    due("missing, n doesn't matter", x.sheet(2, 0, 99), 1);
    due("no such sheet, missing", x.sheet(4, 0, 0), BEYOND);
  }

  /** The number as OFF tells it, without sign and held at 1000, the cells being 0. */
  private static void put() {
    Due.part("29 put");
    FirstSteps x = new FirstSteps();
    int[] bits = {8, 16, 32};
    int[][] puts = {{127, 128, 255, 256, 300, -129}, {999, 65535, 65536, -32769 - 32000, 65536 * 7 - 5, 32768 * 2 + 9},
        {999, -999, MIN, MAX, 1001, -1}};
    int[][] offs = {{127, 128, 1, 0, 44, 127}, {999, 1, 0, 767, 5, 9}, {999, 999, 1000, 1000, 1000, 1}};
    for (int b = 0; b < 3; b++) {
      x.sheet(b, bits[b], 1);
      for (int i = 0; i < puts[b].length; i++) {
        due("put", x.put(b, 0, puts[b][i]), 1);
        due(bits[b] + " bits of " + puts[b][i], x.off(b), offs[b][i]);
      }
    }
    due("no such sheet", x.put(-1, 0, 0), BEYOND);
    due("no such sheet", x.put(4, 0, 0), BEYOND);
    due("missing", x.put(3, 0, 0), NONE);
    due("missing ahead of no such number", x.put(3, 99, 0), NONE);
    due("no such number", x.put(0, 1, 0), BEYOND);
    due("no such number", x.put(0, -1, 0), BEYOND);
  }

  private static FirstSteps rowOf(int... numbers) {
    FirstSteps x = new FirstSteps();
    x.sheet(0, 8, numbers.length);
    for (int i = 0; i < numbers.length; i++) {
      x.put(0, i, numbers[i]);
    }
    return x;
  }

  private static void row(FirstSteps x, int sheet, int... numbers) {
    x.sheet(3, 8, 1);
    for (int i = 0; i < numbers.length; i++) {
      due("moved back", x.move(sheet, i, 3, 0, 1), 1);
      due("number " + i, x.off(3), numbers[i]);
    }
  }

  private static void move() {
    Due.part("30 move");
    FirstSteps x = rowOf(1, 2, 3, 4, 5);
    due("forward, as they were", x.move(0, 0, 0, 1, 4), 4);
    row(x, 0, 1, 1, 2, 3, 4);
    x = rowOf(1, 2, 3, 4, 5);
    due("backward", x.move(0, 1, 0, 0, 4), 4);
    row(x, 0, 2, 3, 4, 5, 5);
    x.sheet(1, 8, 3);
    due("to another", x.move(0, 2, 1, 1, 2), 2);
    row(x, 1, 0, 4, 5);
    due("none of them", x.move(0, 5, 1, 3, 0), 0);
    due("no such sheet", x.move(-1, 0, 0, 0, 0), BEYOND);
    due("no such sheet", x.move(0, 0, 4, 0, 0), BEYOND);
    due("no such sheet ahead of missing", x.move(2, 0, 4, 0, 0), BEYOND);
    due("missing", x.move(2, 0, 0, 0, 0), NONE);
    due("missing", x.move(0, 0, 2, 0, 0), NONE);
    x.sheet(2, 16, 5);
    due("unlike bits", x.move(0, 0, 2, 0, 1), KIND);
    due("unlike bits ahead of n", x.move(0, 0, 2, 0, -1), KIND);
    int[][] wrong = {{0, 0, -1}, {-1, 0, 1}, {0, -1, 1}, {5, 0, 1}, {0, 3, 1}, {3, 0, 3}, {0, 1, 3}, {6, 0, 0},
        {0, 4, 0}, {MAX, 0, 1}, {1, 1, MAX}, {0, 0, MIN}, {0, MAX, 1}};
    for (int[] w : wrong) {
      due("wrong", x.move(0, w[0], 1, w[1], w[2]), BEYOND);
    }
    row(x, 1, 0, 4, 5);
  }

  private static void holds() {
    Due.part("31 holds");
    FirstSteps x = rowOf(7, 9, 50, 0, 3);
    due("two came, one isn't whole", x.holds(0), 2);
    due("cell", x.holdIs(1, 0), 50);
    due("hard", x.holdIs(0, 1), 9);
    x = rowOf(7, 9, 50, 0);
    due("all came", x.holds(0), 2);
    x = rowOf(7, 9, 50, 100, 3, 3);
    due("up to the first refused", x.holds(0), 1);
    x.put(0, 0, -1);
    due("the first is refused", x.holds(0), 0);
    x = rowOf(1, 1, 2, 2, 3, 3, 4, 4, 5, 5, 6, 6, 7, 7, 8, 8, 9, 9, 10, 10);
    x.hold(99, 0);
    due("no more than eight", x.holds(0), 7);
    due("no error", x.told(1) + x.told(4), 0);
    due("full", x.holds(0), 0);
    x.sheet(0, 8, 0);
    due("empty", x.holds(0), 0);
    due("missing", x.holds(1), NONE);
    due("no such sheet", x.holds(4), BEYOND);
    due("no such sheet", x.holds(-1), BEYOND);
  }

  private static void off() {
    Due.part("32 off");
    FirstSteps x = steady();
    x.sheet(0, 32, 7);
    due("cells 0 0 2 2 2 4 4", x.off(0), 14);
    x.put(0, 0, MAX);
    x.put(0, 1, MIN);
    x.put(0, 2, 2);
    x.put(0, 3, 1002);
    x.put(0, 4, 3);
    x.put(0, 5, -995);
    x.put(0, 6, 10);
    due("each held at 1000", x.off(0), 1000 + 1000 + 0 + 1000 + 1 + 999 + 6);
    due("nothing changes", x.is(12), 60);
    x.sheet(1, 8, 0);
    due("an empty one", x.off(1), 0);
    due("missing", x.off(2), NONE);
    due("no such sheet", x.off(4), BEYOND);
    due("no such sheet", x.off(-1), BEYOND);
    FirstSteps y = rowOf(5, 5);
    due("without goings", y.off(0), 10);
  }

  private static void guess() {
    Due.part("33 guess");
    FirstSteps x = steady();
    x.sheet(0, 8, 12);
    due("of several the least", x.guess(0), 0);
    // The LEAN of 57 is 68, 81, 97 in three TENTHS. By a CATCH below 28 it falls in the fifth and steps in the
    // sixth; by one of 28 it is 69, 82, 98 and falls in the sixth: no second step.
    x.set(1, 57);
    int[] cells = {0, 0, 2, 2, 2, 2};
    x.sheet(0, 8, 6);
    for (int i = 0; i < 6; i++) {
      x.put(0, i, cells[i]);
    }
    x.set(4, 14);
    due("off", x.off(0), 2);
    due("weeks by which it is caught", x.guess(0), 56);
    x.set(4, 20);
    due("of several the least", x.guess(0), 32);
    x.set(4, 13);
    due("60 weeks at most", x.guess(0), 60);
    x.set(4, 12);
    due("none is better", x.guess(0), 0);
    x.set(4, 28);
    due("as it is", x.guess(0), 0);
    due("nothing changes", x.is(5), 0);
    x.set(5, 60);
    due("whatever the weeks are", x.guess(0), 0);
    due("missing", x.guess(1), NONE);
    due("no such sheet", x.guess(4), BEYOND);
    due("no such sheet", x.guess(-1), BEYOND);
  }

  private static void image() {
    Due.part("34 image");
    FirstSteps x = steady();
    due("once", x.image(), 1);
    due("twice", x.image(), 2);
    x.restore();
    due("how often is not kept", x.image(), 3);
    x.days(3);
    x.image();
    x.days(4);
    due("in place of one ahead", x.restore(), 3);
  }

  private static void restore() {
    Due.part("35 restore");
    FirstSteps x = new FirstSteps();
    due("none", x.restore(), NONE);
    x.image();
    fill(x);
    due("days", x.restore(), 0);
    due("as at first", x.count(0) + x.count(1) + x.count(2) + x.count(3), 0);
    due("z", x.count(5), 1);
    for (int i = 0; i < 14; i++) {
      due("is " + i, x.is(i), new FirstSteps().is(i));
    }
    due("slip", x.floor(3, 0, 0), 0);
    due("texts", x.untell(0) + x.untell(1), 0);
    due("the sheet stays", x.off(0), 1);
    due("the trace stays", x.count(4), 2);
    due("told stays", x.told(1), 1);
    fill(x);
    x.image();
    due("days", x.restore(), 9);
    x.going(0, 9);
    x.setHold(0, 0, 1);
    x.setHold(0, 1, 1);
    x.setHold(0, 2, 0);
    x.floor(3, 0, 1);
    x.floor(3, 1, 1);
    x.untell(0);
    x.setGoing(0, 0, 1);
    x.setGoing(0, 1, 1);
    x.text(1);
    feed(x, "xx");
    x.check();
    x.tell(1);
    x.tell(1);
    x.tenths(9);
    due("it stays", x.restore(), 9);
    due("goings", x.count(1), 1);
    due("cell", x.holdIs(0, 0), 60);
    due("hard", x.holdIs(0, 1), 70);
    due("padded", x.holdIs(0, 2), 1);
    due("slip", x.floor(3, 0, 0), 4);
    due("slope", x.floor(3, 1, 0), -4);
    due("kind", x.goingIs(0, 0), 3);
    due("m", x.goingIs(0, 1), 33);
    due("tenths", x.goingIs(0, 2), 50);
    due("a text", x.untell(0), 1);
    due("left", x.is(12), 45);
    due("bytes", x.count(2), 1);
    due("the tape", x.text(1), 1);
    due("those that wait", x.count(3), 1);
    due("are none of these", x.check(), 1);
    x.restore();
    x.check();
    x.tell(5);
    x.restore();
    x.seed(0);
    due("waits as it did", waits(x), 20);
  }

  /** The number of FALLS that waits, found by as many FALLS. */
  private static int waits(FirstSteps x) {
    x.image();
    for (int i = 0; i < 99; i++) {
      if (x.check() == 0) {
        return i;
      }
      x.restore();
      x.set(0, 0);
      x.set(1, 99);
      x.tenths(1);
      x.set(1, 0);
      x.image();
    }
    return -1;
  }

  private static void fill(FirstSteps x) {
    x.floor(3, 0, 4);
    x.floor(3, 1, -4);
    x.hold(60, 70);
    x.setHold(0, 2, 1);
    x.going(333, 50);
    for (int i = 0; i < 7; i++) {
      x.set(i, i + 1);
    }
    tell(x, 0, "1");
    tell(x, 1, "1");
    feed(x, "g");
    x.days(9);
    x.tenths(5);
    x.sheet(0, 8, 1);
    x.put(0, 0, 1);
    x.voice(0, 1, 1);
    x.is(99);
    x.tell(20);
  }

  private static void tell() {
    Due.part("36 tell");
    FirstSteps x = new FirstSteps();
    for (int i = 1; i <= 24; i++) {
      due("waits", x.tell(MIN), i);
    }
    due("a twenty-fifth", x.tell(0), FULL);
    due("how many", x.count(3), 24);
    due("told", x.told(4), 1);
  }

  private static void check() {
    Due.part("37 check");
    FirstSteps x = steady();
    due("none wait", x.check(), 0);
    x.set(1, 70);
    // 84, 100: falls in the second
    int[] falls = {0, 1, 1};
    for (int f : falls) {
      x.tell(f);
    }
    due("as it falls", x.check(), 0);
    due("none wait", x.count(3), 0);
    for (int i = 0; i < 3; i++) {
      for (int j = 0; j < 3; j++) {
        x.tell(i == j ? 9 : falls[j]);
      }
      due("the first that isn't so", x.check(), 1 + i);
      due("none wait", x.count(3), 0);
    }
    x.tenths(2);
    x.tell(1);
    due("falls so far count", x.check(), 0);
    due("nothing changes", x.is(12), 58);
    FirstSteps y = new FirstSteps();
    for (int i = 0; i < 24; i++) {
      y.tell(0);
    }
    due("without goings", y.check(), 0);
    due("no error", y.told(3), 0);
  }

  private static void count() {
    Due.part("38 count");
    FirstSteps x = new FirstSteps();
    x.hold(1, 1);
    x.hold(1, 1);
    x.going(0, 1);
    x.feed(0, 3);
    for (int i = 0; i < 4; i++) {
      x.tell(i);
    }
    x.voice(0, 2, 0);
    x.seed(BEYOND);
    due("holds", x.count(0), 2);
    due("goings", x.count(1), 1);
    due("bytes", x.count(2), 3);
    due("numbers", x.count(3), 4);
    due("bodies", x.count(4), 3);
    due("z", x.count(5), BEYOND);
    due("no error", x.told(1), 0);
    due("below", x.count(-1), BEYOND);
    due("above", x.count(6), BEYOND);
  }

  private static void told() {
    Due.part("39 told");
    FirstSteps x = new FirstSteps();
    x.is(-1);
    x.nearest();
    x.nearest();
    x.tenths(1);
    x.ways(1, 0);
    x.go(1);
    for (int i = 0; i < 12; i++) {
      x.hold(1, 1);
    }
    x.going(0, 1);
    for (int i = 1; i < 6; i++) {
      x.as(0, i);
    }
    for (int i = 0; i < 6; i++) {
      x.voice(0, 3, 1);
    }
    int[] want = {1, 2, 3, 4, 5, 6};
    for (int k = 1; k <= 6; k++) {
      due("told " + k, x.told(k), want[k - 1]);
    }
    due("another k", x.told(0), BEYOND);
    due("another k", x.told(7), BEYOND);
    due("another k", x.told(MIN), BEYOND);
    due("counted, too", x.told(1), 4);
    due("and longs", x.ways(0, 0), BEYOND);
    due("counted, too", x.told(1), 5);
  }
}

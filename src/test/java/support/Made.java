/** Objects that several tests begin with, each made by the same calls each time. */
final class Made {
  private Made() {}

  static void feed(FirstSteps x, String text) {
    for (int i = 0; i < text.length(); i += 8) {
      long word = 0;
      int n = Math.min(8, text.length() - i);
      for (int j = 0; j < n; j++) {
        word |= (long) text.charAt(i + j) << 8 * j;
      }
      x.feed(word, n);
    }
  }

  static int text(FirstSteps x, int use, String text) {
    feed(x, text);
    return x.text(use);
  }

  /** One GOING of a KIND for 60 TENTHS, and no SWAY: each D is 0. */
  static FirstSteps still(int kind) {
    FirstSteps x = new FirstSteps();
    x.set(3, 0);
    x.going(100 * kind, 60);
    return x;
  }

  static FirstSteps withHolds(int... cells) {
    FirstSteps x = new FirstSteps();
    for (int cell : cells) {
      x.hold(cell, 10);
    }
    return x;
  }

  /**
   * Some of all that there is: four HOLDS, one GOING of each KIND, TEXTS, SHEETS, numbers that wait and are FALLS as
   * they come, an IMAGE that is unlike it. No call is refused so far.
   */
  static FirstSteps rich() {
    return rich(true, true, true);
  }

  static FirstSteps withoutHolds() {
    return rich(false, true, true);
  }

  static FirstSteps withoutGoings() {
    return rich(true, false, true);
  }

  static FirstSteps withoutImage() {
    return rich(true, true, false);
  }

  /** As many HOLDS, GOINGS, bytes, numbers that wait as there may be. */
  static FirstSteps full() {
    FirstSteps x = rich();
    for (int i = 4; i < 8; i++) {
      x.hold(30 + i, i);
    }
    x.going(307, 8);
    feed(x, "+1+1+1+1+1+1+1+1+1+1+1+1+1+1+1+1+1+1+1+1+1+1+1+1+1+1+11");
    for (int i = 4; i <= 24; i++) {
      x.tell(x.then(i, 7));
    }
    return x;
  }

  /** DAYS more, up to this one. */
  static FirstSteps old(int days) {
    FirstSteps x = rich();
    for (int left = days - x.is(13); left > 0; left -= 60) {
      x.days(Math.min(60, left));
    }
    return x;
  }

  private static FirstSteps rich(boolean holds, boolean goings, boolean image) {
    FirstSteps x = new FirstSteps();
    int[][] floors = {{0, 0, 3}, {0, 1, -2}, {4, 1, 7}, {9, 0, 9}};
    for (int[] f : floors) {
      x.floor(f[0], f[1], f[2]);
    }
    int[][] stand = {{5, 40}, {20, 99}, {20, 7}, {29, 10}};
    for (int i = 0; holds && i < stand.length; i++) {
      x.hold(stand[i][0], stand[i][1]);
    }
    int[][] child = {{2, 9}, {3, 5}, {4, 12}, {5, 3}, {6, 250}};
    for (int[] c : child) {
      x.set(c[0], c[1]);
    }
    int[] kms = {303, 105, 204, 407, 502, 11, 606};
    for (int i = 0; goings && i < kms.length; i++) {
      x.going(kms[i], 4 + i);
    }
    text(x, 0, "f+h");
    text(x, 1, "g<10");
    feed(x, "7+w");
    x.days(3);
    wait(x, 2);
    sheets(x);
    if (image) {
      x.image();
    }
    on(x, holds, goings);
    return x;
  }

  private static void wait(FirstSteps x, int many) {
    for (int i = 1; i <= many; i++) {
      x.tell(x.then(i, 7));
    }
  }

  private static void sheets(FirstSteps x) {
    int[] bits = {8, 16, 32, 8};
    for (int sheet = 0; sheet < 4; sheet++) {
      x.sheet(sheet, bits[sheet], 6 - sheet);
      x.put(sheet, 0, 3 + sheet);
      x.put(sheet, 2, 60 * sheet - 9);
    }
  }

  private static void on(FirstSteps x, boolean holds, boolean goings) {
    x.text(0);
    feed(x, "f+h*2");
    x.floor(1, 1, 4);
    x.days(4);
    if (holds) {
      x.setHold(0, 1, 41);
      x.setHold(2, 2, 1);
    }
    if (goings) {
      x.setGoing(3, 1, 44);
      x.tenths(23);
      x.voice(2, 2, 5);
    }
    x.set(0, 4);
    x.set(1, -80);
    x.check();
    wait(x, 3);
  }
}

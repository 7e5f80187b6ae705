/** Counts the answers that are not as due, and says them. */
final class Due {
  static final int BEYOND = -1000000001;
  static final int NONE = -1000000002;
  static final int STATE = -1000000003;
  static final int FULL = -1000000004;
  static final int KIND = -1000000005;
  static final int PARTED = -1000000006;

  private static int asked = 0;
  private static int wrong = 0;
  private static String part = "";

  private Due() {}

  static void part(String name) {
    part = name;
  }

  static void due(String call, long got, long want) {
    asked++;
    if (got != want) {
      wrong++;
      System.out.println(part + ": " + call + " answered " + got + ", due is " + want);
    }
  }

  static void holds(String what, boolean holds) {
    due(what, holds ? 1 : 0, 1);
  }

  static void end() {
    System.out.println(asked + " answers asked, " + wrong + " not as due");
    if (wrong != 0 || asked == 0) {
      System.exit(1);
    }
  }
}

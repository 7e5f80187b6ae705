import java.util.ArrayList;
import java.util.List;
import java.util.function.Supplier;

/**
 * Two objects made by the same calls. One of them is asked something more; then both are asked the same questions,
 * until nothing of what they hold has been left unasked.
 */
final class Twins {
  /** A call on an object, or some. */
  interface Call {
    long of(FirstSteps x);
  }

  private Twins() {}

  /** The call answers an ERROR, told() tells one more of that, and nothing else is other than without the call. */
  static void refused(String name, Supplier<FirstSteps> made, Call call, int error) {
    compare(name, made, call, error, true);
  }

  /** The call answers what is due, which is no ERROR, and nothing at all is other than without the call. */
  static void unchanged(String name, Supplier<FirstSteps> made, Call call, long answer) {
    compare(name, made, call, answer, false);
  }

  private static void compare(String name, Supplier<FirstSteps> made, Call call, long answer, boolean error) {
    FirstSteps x = made.get();
    FirstSteps y = made.get();
    Due.due(name, call.of(x), answer);
    for (int k = 1; k <= 6; k++) {
      Due.due(name + ", then told(" + k + ") less before", x.told(k) - y.told(k), error && answer == -1000000000 - k ? 1 : 0);
    }
    List<Long> shown = new ArrayList<>();
    List<Long> due = new ArrayList<>();
    all(x, shown);
    all(y, due);
    Due.due(name + ", then as many answers", shown.size(), due.size());
    for (int i = 0; i < Math.min(shown.size(), due.size()); i++) {
      Due.due(name + ", then answer " + i, shown.get(i), due.get(i));
    }
  }

  private static void all(FirstSteps x, List<Long> shown) {
    looks(x, shown);
    ahead(x, shown);
    told(x, shown);
    floors(x, shown);
    sheets(x, shown);
    image(x, shown);
  }

  private static void add(List<Long> shown, long... answers) {
    for (long answer : answers) {
      shown.add(answer);
    }
  }

  /** What is(), count(), holdIs(), goingIs(), body() tell. */
  private static void looks(FirstSteps x, List<Long> shown) {
    child(x, shown);
    room(x, shown);
    int bodies = x.count(4);
    for (int i = 0; i < bodies; i++) {
      add(shown, x.body(i));
    }
    for (int sheet = 0; sheet < 4; sheet++) {
      add(shown, x.off(sheet));
    }
  }

  private static void child(FirstSteps x, List<Long> shown) {
    for (int what = 0; what <= 13; what++) {
      add(shown, x.is(what));
    }
    for (int what = 0; what <= 5; what++) {
      add(shown, x.count(what));
    }
  }

  private static void room(FirstSteps x, List<Long> shown) {
    int holds = x.count(0);
    for (int hold = 0; hold < holds; hold++) {
      add(shown, x.holdIs(hold, 0), x.holdIs(hold, 1), x.holdIs(hold, 2));
    }
    int goings = x.count(1);
    for (int going = 0; going < goings; going++) {
      add(shown, x.goingIs(going, 0), x.goingIs(going, 1), x.goingIs(going, 2));
    }
  }

  private static void ahead(FirstSteps x, List<Long> shown) {
    add(shown, x.gaps(0), x.gaps(1), x.gaps(2), x.then(200, 0), x.then(200, 1), x.then(200, 6), x.then(200, 9));
    add(shown, x.ways(3, 0), x.ways(3, 1), x.pad(60), x.go(60));
  }

  /** The numbers that wait, the TEXTS, THE TAPE: asking takes them away. */
  private static void told(FirstSteps x, List<Long> shown) {
    add(shown, x.check(), x.tell(1), x.set(1, 99), x.then(1, 6), x.untell(0), x.untell(1));
    // What stands on THE TAPE is shown by its FAULT, or by what it is worth.
    add(shown, x.text(0), x.then(1, 6), x.count(2));
  }

  private static void floors(FirstSteps x, List<Long> shown) {
    for (int floor = 0; floor < 10; floor++) {
      add(shown, x.floor(floor, 0, 0), x.floor(floor, 1, 0));
    }
  }

  /** The numbers of each SHEET but the last, one by one, as OFF tells them where THE CHILD sits in CELL 0. */
  private static void sheets(FirstSteps x, List<Long> shown) {
    x.set(0, 0);
    x.setGoing(0, 0, 6);
    int[] bits = {8, 16, 32};
    for (int sheet = 0; sheet < 3; sheet++) {
      x.sheet(3, bits[sheet], 1);
      for (int i = 0; i < 6 - sheet; i++) {
        add(shown, x.move(sheet, i, 3, 0, 1), x.off(3));
      }
      add(shown, x.move(sheet, 6 - sheet, 3, 0, 1));
    }
  }

  private static void image(FirstSteps x, List<Long> shown) {
    add(shown, x.restore());
    child(x, shown);
    room(x, shown);
    told(x, shown);
    floors(x, shown);
    add(shown, x.image());
  }
}

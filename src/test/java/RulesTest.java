import java.lang.management.ManagementFactory;
import java.lang.reflect.Field;
import java.lang.reflect.Method;
import java.lang.reflect.Modifier;
import java.nio.file.Files;
import java.nio.file.Path;
import java.util.Random;
import java.util.Set;
import java.util.TreeSet;

/** What ../shared/LANGUAGE.md asks and a program can see; run from the project's folder. */
public final class RulesTest {
  private static final String[] FACE = {
    "int floor(int,int,int)", "int hold(int,int)", "int holdIs(int,int)", "int setHold(int,int,int)",
    "int set(int,int)", "int is(int)", "int nearest()", "int going(int,int)", "int goingIs(int,int)",
    "int as(int,int)", "int setGoing(int,int,int)", "int feed(long,int)", "int text(int)", "int untell(int)",
    "int tenths(int)", "int days(int)", "int seed(int)", "int then(int,int)", "long ways(int,int)",
    "int way(int,int)", "int gaps(int)", "int pad(int)", "int stand(int,int)", "int go(int)",
    "int voice(int,int,int)", "int body(int)", "int sheet(int,int,int)", "int put(int,int,int)",
    "int move(int,int,int,int,int)", "int holds(int)", "int off(int)", "int guess(int)", "int image()",
    "int restore()", "int tell(int)", "int check()", "int count(int)", "int told(int)"};
  private static final String[] FORBIDDEN = {"throw", "throws", "try", "catch", "synchronized", "assert", "import",
    "package", "protected", "->", "::", "@", "System.out", "\"\"\"", "Exact("};
  // One object and the tools of the test itself; the calls make nothing.
  private static final int MOST_BYTES = 100_000;

  private RulesTest() {}

  public static void main(String[] args) throws Exception {
    face();
    source();
    statics();
    anyArguments();
    roomUsed();
    Due.end();
  }

  private static void face() {
    Due.part("the face");
    Set<String> face = new TreeSet<>(java.util.Arrays.asList(FACE));
    Set<String> names = new TreeSet<>();
    Set<String> found = new TreeSet<>();
    for (Method m : FirstSteps.class.getDeclaredMethods()) {
      if (Modifier.isPublic(m.getModifiers())) {
        String text = m.toString().replace("public ", "").replace("FirstSteps.", "");
        found.add(text);
        names.add(m.getName());
      } else {
        Due.holds(m + " is private", Modifier.isPrivate(m.getModifiers()));
      }
    }
    Due.holds("the methods are " + found, found.equals(face));
    Due.holds("public and final", FirstSteps.class.getModifiers() == (Modifier.PUBLIC | Modifier.FINAL));
    Due.due("constructors", FirstSteps.class.getDeclaredConstructors().length, 1);
    for (Field f : FirstSteps.class.getDeclaredFields()) {
      Due.holds(f + " is private", Modifier.isPrivate(f.getModifiers()));
    }
    Class<?>[] inside = FirstSteps.class.getDeclaredClasses();
    Due.holds("at most twelve classes", inside.length + 1 <= 12);
    for (Class<?> c : inside) {
      int m = c.getModifiers();
      Due.holds(c + " is static and not public", Modifier.isStatic(m) && !Modifier.isPublic(m));
      for (Method method : c.getDeclaredMethods()) {
        Due.holds(method + " bears no public name", !names.contains(method.getName()));
        Due.holds(method + " takes seven at most", method.getParameterCount() <= 7);
      }
    }
  }

  private static void source() throws Exception {
    Due.part("the source");
    String text = Files.readString(Path.of("src/main/java/FirstSteps.java"));
    text = text.replaceAll("(?s)/\\*.*?\\*/", " ").replaceAll("//[^\n]*", " ");
    for (String word : FORBIDDEN) {
      boolean letters = Character.isLetter(word.charAt(0)) && Character.isLetter(word.charAt(word.length() - 1));
      String pattern = letters ? "\\b" + word + "\\b" : java.util.regex.Pattern.quote(word);
      Due.holds("without " + word, !java.util.regex.Pattern.compile(pattern).matcher(text).find());
    }
    for (int i = 0; i < text.length(); i++) {
      Due.holds("signs 1 to 127", text.charAt(i) < 128);
    }
    // A method begins and ends two or four blanks from the left.
    String[] lines = text.split("\n");
    int from = 0;
    for (int i = 0; i < lines.length; i++) {
      if (lines[i].matches(" {2,4}[a-zA-Z].*\\) \\{")) {
        from = i;
      }
      if (lines[i].matches(" {2,4}\\}")) {
        Due.holds("a short method at line " + (from + 1), i - from < 60);
      }
    }
  }

  private static void statics() {
    Due.part("static fields");
    Set<Class<?>> allowed = Set.of(int.class, long.class, boolean.class, char.class, String.class, int[].class);
    int classes = 0;
    java.util.List<Class<?>> all = new java.util.ArrayList<>(java.util.List.of(FirstSteps.class.getDeclaredClasses()));
    all.add(FirstSteps.class);
    for (Class<?> c : all) {
      int own = 0;
      for (Field f : c.getDeclaredFields()) {
        if (Modifier.isStatic(f.getModifiers())) {
          Due.holds(f + " is a constant", Modifier.isFinal(f.getModifiers()) && allowed.contains(f.getType()));
        } else {
          own++;
        }
      }
      Due.holds(c + " has some twenty fields", own <= 20);
      classes++;
    }
    Due.holds("classes", classes > 0);
  }

  /** No call throws or hangs, whatever it is given. */
  private static void anyArguments() throws Exception {
    Due.part("any arguments");
    Method[] calls = methods();
    for (int run = 0; run < 200; run++) {
      Random random = new Random(run);
      FirstSteps x = new FirstSteps();
      // What calls behind the 512th answer is free, but they don't throw either.
      for (int i = 0; i < 700; i++) {
        Method m = calls[random.nextInt(calls.length)];
        try {
          m.invoke(x, arguments(m, random, run % 2 == 0));
        } catch (java.lang.reflect.InvocationTargetException e) {
          Due.holds(m + " threw " + e.getCause(), false);
        }
      }
    }
  }

  private static Method[] methods() {
    Method[] all = java.util.Arrays.stream(FirstSteps.class.getDeclaredMethods())
        .filter(m -> Modifier.isPublic(m.getModifiers())).toArray(Method[]::new);
    // Reflection promises no order; the seeds need one.
    java.util.Arrays.sort(all, java.util.Comparator.comparing(Method::toString));
    return all;
  }

  private static Object[] arguments(Method m, Random random, boolean wild) {
    Object[] args = new Object[m.getParameterCount()];
    int[] edges = {Integer.MIN_VALUE, Integer.MAX_VALUE, -1, 0, 1, 7, 8, 24, 60, 99, 100, 200, 699};
    for (int i = 0; i < args.length; i++) {
      int v = wild ? random.nextInt() : random.nextInt(10);
      v = random.nextInt(3) == 0 ? edges[random.nextInt(edges.length)] : v;
      args[i] = m.getParameterTypes()[i] == long.class ? (Object) Long.valueOf(random.nextLong()) : Integer.valueOf(v);
    }
    return args;
  }

  /** The dearest calls, 512 of each, make next to nothing behind the constructor. */
  private static void roomUsed() {
    Due.part("room used");
    com.sun.management.ThreadMXBean bean = (com.sun.management.ThreadMXBean) ManagementFactory.getThreadMXBean();
    long id = Thread.currentThread().getId();
    long before = bean.getThreadAllocatedBytes(id);
    FirstSteps x = new FirstSteps();
    for (int i = 0; i < 8; i++) {
      x.hold(10 * i, 10);
      x.going(100 * (i % 7), 9);
    }
    x.sheet(0, 32, 24);
    long answers = 0;
    for (int i = 0; i < 512; i++) {
      answers += x.tenths(200) + x.ways(8, 1) + x.pad(200) + x.stand(1, 60) + x.go(200) + x.guess(0) + x.image();
      answers += x.restore() + x.voice(4, 2, i) + x.gaps(1) + x.then(200, 1) + x.feed(i, 1) + x.text(0);
    }
    long used = bean.getThreadAllocatedBytes(id) - before;
    Due.holds("answers", answers != 0);
    Due.holds("bytes: " + used, used < MOST_BYTES);
  }
}

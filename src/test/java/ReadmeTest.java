import java.lang.reflect.Method;
import java.lang.reflect.Modifier;
import java.nio.file.Files;
import java.nio.file.Path;
import java.util.Set;
import java.util.TreeSet;
import java.util.regex.Matcher;
import java.util.regex.Pattern;

/** The calls that README.md shows answer what it says, and it shows each; run from the project's folder. */
public final class ReadmeTest {
  private static final Pattern CALL = Pattern.compile("x\\.(\\w+)\\((.*)\\); +// (-?\\d+): \\S.*");

  private ReadmeTest() {}

  public static void main(String[] args) throws Exception {
    Due.part("README.md");
    String text = Files.readString(Path.of("README.md"));
    Set<String> shown = new TreeSet<>();
    FirstSteps x = new FirstSteps();
    for (String line : text.substring(text.indexOf("```java")).split("\n")) {
      if (line.startsWith("x.")) {
        Matcher call = CALL.matcher(line);
        Due.holds(line + " tells an answer", call.matches());
        if (call.matches()) {
          shown.add(call.group(1));
          Due.due(line, answer(x, call.group(1), call.group(2)), Long.parseLong(call.group(3)));
        }
      }
    }
    for (Method m : FirstSteps.class.getDeclaredMethods()) {
      if (Modifier.isPublic(m.getModifiers())) {
        Due.holds(m.getName() + " is shown", shown.contains(m.getName()));
      }
    }
    Due.end();
  }

  private static long answer(FirstSteps x, String name, String arguments) throws Exception {
    String[] words = arguments.isEmpty() ? new String[0] : arguments.split(", ");
    for (Method m : FirstSteps.class.getDeclaredMethods()) {
      if (Modifier.isPublic(m.getModifiers()) && m.getName().equals(name) && m.getParameterCount() == words.length) {
        Object[] values = new Object[words.length];
        for (int i = 0; i < words.length; i++) {
          boolean wide = m.getParameterTypes()[i] == long.class;
          Due.holds(words[i] + " is a long where one is due", wide == words[i].endsWith("L"));
          values[i] = wide ? (Object) Long.decode(words[i].replace("L", "")) : Integer.decode(words[i]);
        }
        return ((Number) m.invoke(x, values)).longValue();
      }
    }
    Due.holds("there is a call " + name + "(" + arguments + ")", false);
    return 0;
  }
}

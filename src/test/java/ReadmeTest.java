import java.io.IOException;
import java.lang.reflect.Method;
import java.nio.charset.StandardCharsets;
import java.nio.file.Files;
import java.nio.file.Path;
import java.util.regex.Matcher;
import java.util.regex.Pattern;

/** The calls that README.md shows, one after the other, answer what it says behind them. */
public final class ReadmeTest {
  private static final Pattern CALL = Pattern.compile("^x\\.(\\w+)\\((.*)\\); +// (-?[0-9]+)\\b.*$", Pattern.MULTILINE);
  private static final Checks c = new Checks();

  public static void main(String[] args) throws IOException, ReflectiveOperationException {
    String readme = Files.readString(Path.of("README.md"), StandardCharsets.UTF_8);
    FountainGivesChange x = new FountainGivesChange();
    c.about("README.md");
    int calls = 0;
    Matcher m = CALL.matcher(readme);
    while (m.find()) {
      calls++;
      c.due("x." + m.group(1) + "(" + m.group(2) + ")", answer(x, m.group(1), m.group(2)), Long.parseLong(m.group(3)));
    }
    c.due("calls that say what they answer", calls, lines(readme));
    everyCallIsNamed(readme);
    c.end();
  }

  private static long lines(String readme) {
    return readme.lines().filter(line -> line.startsWith("x.")).count();
  }

  private static void everyCallIsNamed(String readme) {
    for (Method method : FountainGivesChange.class.getDeclaredMethods()) {
      if (java.lang.reflect.Modifier.isPublic(method.getModifiers())) {
        c.holds(method.getName() + " is named", readme.contains("`" + method.getName() + "`"));
      }
    }
  }

  private static long answer(FountainGivesChange x, String name, String told) throws ReflectiveOperationException {
    String[] words = told.isEmpty() ? new String[0] : told.split(", ");
    for (Method method : FountainGivesChange.class.getMethods()) {
      if (method.getName().equals(name) && method.getParameterCount() == words.length) {
        Object[] values = new Object[words.length];
        for (int i = 0; i < words.length; i++) {
          long v = words[i].startsWith("'") ? words[i].charAt(1) : Long.parseLong(words[i]);
          if (method.getParameterTypes()[i] == long.class) {
            values[i] = v;
          } else {
            values[i] = (int) v;
          }
        }
        return ((Number) method.invoke(x, values)).longValue();
      }
    }
    throw new IllegalStateException("no such call: " + name);
  }
}

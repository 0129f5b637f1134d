import java.lang.reflect.Method;
import java.lang.reflect.Modifier;
import java.nio.file.Files;
import java.nio.file.Path;
import java.util.Arrays;
import java.util.regex.Matcher;
import java.util.regex.Pattern;
import java.util.stream.Collectors;

/** README.md: its example answers what it says, and it tells of every call and every constant. */
public final class ReadmeTests {
  private static final Pattern ROW = Pattern.compile("house\\.(\\w+)\\(([^)]*)\\);\\s*// (-?\\d+|[A-Z]+)(:.*)?");

  public static void main(String[] args) throws Exception {
    String readme = Files.readString(Path.of("README.md"));
    dueExample(readme);
    for (Method m : StubHouse.class.getDeclaredMethods()) {
      if (Modifier.isPublic(m.getModifiers())) dueCall(readme, m);
    }
    for (var f : StubHouse.class.getFields()) {
      House.sentence("README.md: the constants");
      House.due(f.getName(), readme.contains("| `" + f.getName() + "` | " + f.getInt(null) + " |") ? 1 : 0, 1);
    }
    House.end();
  }

  private static void dueExample(String readme) throws Exception {
    int from = readme.indexOf("```java") + 7;
    StubHouse house = new StubHouse();
    int rows = 0;
    for (String line : readme.substring(from, readme.indexOf("```", from)).split("\n")) {
      if (line.isBlank() || line.equals("StubHouse house = new StubHouse();")) continue;
      House.sentence("README.md: the example");
      Matcher row = ROW.matcher(line);
      House.due(line + ": a call and its answer", row.matches() ? 1 : 0, 1);
      if (!row.matches()) continue;
      House.due(line, answer(house, row.group(1), row.group(2)), wanted(row.group(3)));
      rows++;
    }
    House.due("rows of the example, at least 20", rows >= 20 ? 1 : 0, 1);
  }

  private static long wanted(String text) throws Exception {
    return Character.isLetter(text.charAt(0)) ? StubHouse.class.getField(text).getInt(null) : Long.parseLong(text);
  }

  private static long answer(StubHouse house, String call, String given) throws Exception {
    String[] texts = given.isBlank() ? new String[0] : given.split(", ");
    for (Method m : StubHouse.class.getDeclaredMethods()) {
      if (!m.getName().equals(call) || m.getParameterCount() != texts.length) continue;
      Object[] values = new Object[texts.length];
      for (int i = 0; i < texts.length; i++) values[i] = value(m.getParameterTypes()[i], texts[i]);
      return ((Number) m.invoke(house, values)).longValue();
    }
    throw new IllegalArgumentException("no call " + call);
  }

  private static Object value(Class<?> type, String text) {
    if (type == boolean.class) return Boolean.valueOf(text);
    long number = text.startsWith("'") ? text.charAt(1) : Long.parseLong(text);
    if (type == long.class) return number;
    return (int) number;
  }

  /** The call stands in a table as the document writes it (the names of what it is given are not looked at). */
  private static void dueCall(String readme, Method m) {
    House.sentence("README.md: the calls");
    String given = Arrays.stream(m.getParameterTypes()).map(t -> t.getName() + " \\w+").collect(Collectors.joining(", "));
    Pattern call = Pattern.compile("\\| `" + m.getReturnType().getName() + " " + m.getName() + "\\(" + given + "\\)` \\|");
    House.due(m.getName(), call.matcher(readme).find() ? 1 : 0, 1);
  }
}

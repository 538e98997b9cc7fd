import java.io.IOException;
import java.lang.reflect.InvocationTargetException;
import java.lang.reflect.Method;
import java.nio.file.Files;
import java.nio.file.Path;
import java.util.regex.Matcher;
import java.util.regex.Pattern;

/** The calls that README.md shows, made one behind the other: each answers what stands behind it. */
public final class ReadmeTests {
  private static final String FIRST = "ChoiceDesk desk = new ChoiceDesk();";
  private static final Pattern CALL =
      Pattern.compile("desk\\.(\\w+)\\(([^)]*)\\); +// (-?\\d+|throws \\w+)(: .*)?");
  private static int wrong = 0;
  private static int calls = 0;

  private static void tell(String line, String what) {
    wrong++;
    System.out.println(line + " " + what);
  }

  private static Method named(String name) {
    for (Method m : ChoiceDesk.class.getDeclaredMethods()) if (m.getName().equals(name)) return m;
    return null;
  }

  private static Object[] arguments(Method m, String[] words) {
    Object[] given = new Object[words.length];
    for (int i = 0; i < words.length; i++) {
      boolean isYesOrNo = m.getParameterTypes()[i] == boolean.class;
      given[i] = isYesOrNo ? (Object) Boolean.valueOf(words[i]) : (Object) Integer.valueOf(words[i]);
    }
    return given;
  }

  private static String answer(ChoiceDesk desk, Method m, Object[] given) throws IllegalAccessException {
    try {
      return String.valueOf(m.invoke(desk, given));
    } catch (InvocationTargetException e) {
      return "throws " + e.getCause().getClass().getSimpleName();
    }
  }

  private static void ask(ChoiceDesk desk, String line) throws IllegalAccessException {
    Matcher call = CALL.matcher(line);
    Method m = call.matches() ? named(call.group(1)) : null;
    if (m == null) {
      tell(line, "is no call with its answer");
      return;
    }
    String[] words = call.group(2).split(", ");
    if (words.length != m.getParameterCount()) {
      tell(line, "has not as many arguments as the face");
      return;
    }
    calls++;
    String got = answer(desk, m, arguments(m, words));
    if (!got.equals(call.group(3))) tell(line, "answered " + got);
  }

  public static void main(String[] args) throws IOException, IllegalAccessException {
    String text = Files.readString(Path.of("README.md"));
    int from = text.indexOf("```java\n");
    int to = text.indexOf("```\n", from + 4);
    String[] lines = from < 0 || to < 0 ? new String[] {""} : text.substring(from + 8, to).split("\n");
    if (!lines[0].equals(FIRST)) tell(lines[0], "is not the first line that is due");
    ChoiceDesk desk = new ChoiceDesk();
    for (int i = 1; i < lines.length; i++) {
      if (!lines[i].isEmpty() && !lines[i].startsWith("// ")) ask(desk, lines[i]);
    }
    if (calls < 40) tell("README.md", "shows only " + calls + " calls");
    System.out.println(calls + " calls of README.md, " + wrong + " not as told");
    if (wrong != 0) System.exit(1);
  }
}

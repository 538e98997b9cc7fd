import java.io.IOException;
import java.lang.reflect.Constructor;
import java.lang.reflect.Field;
import java.lang.reflect.Method;
import java.lang.reflect.Modifier;
import java.nio.file.Files;
import java.nio.file.Path;
import java.util.Arrays;
import java.util.Set;
import java.util.TreeSet;
import java.util.regex.Matcher;
import java.util.regex.Pattern;

/** The public face, and those rules of LANGUAGE.md that can be seen in the class or its text. */
public final class FaceTests {
  private static final Path SOURCE = Path.of("src/main/java/ChoiceDesk.java");
  private static final String FACE = """
      int question(int, int, int, int, int)
      int saying(int, int, int, int)
      int table(int, int, int, int)
      int row(int, int, int, int, int)
      int rule(int, int)
      int drop(int, int)
      int turn(int, int, int)
      int wholes(int)
      int size(int, int)
      int dead(int, int, int)
      int needless(int, int)
      int same(int, int)
      int start(int)
      int choose(int, int, int)
      int back(int, int)
      int may(int, int, int)
      int value(int, int)
      int state(int, int)
      int choice(int, int)
      int why(int, int, int)
      int standard(int, int, int)
      int fill(int)
      int wish(int, int, int, int)
      int nearest(int)
      int near(int, int)
      int fewest(int)
      int price(int, int, int, int)
      int pair(int, int, int, int)
      int step(int, int, int, int)
      long cost(int) throws IllegalArgumentException, IllegalStateException
      long limit(int, boolean) throws IllegalArgumentException, IllegalStateException
      int carry(int, int)
      int lost(int)
      int count(int, int)
      int keep(int, int, int, int)
      int make(int, int, int)
      long element(int, int) throws IllegalArgumentException, IllegalStateException
      int copy(int, int, int, int, int)
      int weight(int) throws IllegalArgumentException, IllegalStateException
      int toss(int)
      """;
  private static final String[] FORBIDDEN = {
    "->", "::", "\\bfinally\\b", "\\bsynchronized\\b", "\\bassert\\b", "\\bvar\\b", "\\bvolatile\\b",
    "\\bException\\b", "\\bRuntimeException\\b", "\\bThrowable\\b", "\\bError\\b", "\\bArithmeticException\\b",
    "\\bNullPointerException\\b", "\\bClassCastException\\b", "ArrayIndexOutOfBounds", "IndexOutOfBounds",
    "NegativeArraySize", "ArrayStore", "Exact\\(", "\\bMath\\.random", "\\bSystem\\.(?!arraycopy)",
    "\\bThread\\b", "\\bpackage\\b", "\\bHashMap\\b", "hashCode", "toString", "getMessage", "\\bdouble\\b",
    "\\bimport (?!java\\.util\\.Arrays;)", "\\bstatic \\{", "\\bgoto\\b", "while \\(true\\)", "for \\(;;\\)",
  };
  private static int wrong = 0;

  private static void hold(boolean holds, String what) {
    if (!holds) {
      wrong++;
      System.out.println(what);
    }
  }

  private static String told(Method m) {
    String types = Arrays.toString(Arrays.stream(m.getParameterTypes()).map(Class::getSimpleName).toArray());
    String thrown = Arrays.toString(Arrays.stream(m.getExceptionTypes()).map(Class::getSimpleName).toArray());
    return m.getReturnType().getSimpleName() + " " + m.getName() + "(" + types.substring(1, types.length() - 1) + ")"
        + (thrown.equals("[]") ? "" : " throws " + thrown.substring(1, thrown.length() - 1));
  }

  private static void face() {
    Set<String> due = new TreeSet<>(FACE.lines().toList());
    Set<String> there = new TreeSet<>();
    Set<String> names = new TreeSet<>();
    for (Method m : ChoiceDesk.class.getDeclaredMethods()) {
      if (Modifier.isPrivate(m.getModifiers())) continue;
      hold(Modifier.isPublic(m.getModifiers()) && !Modifier.isStatic(m.getModifiers()), "not public: " + m);
      there.add(told(m));
      names.add(m.getName());
    }
    hold(due.equals(there), "the face is " + there);
    for (Class<?> c : ChoiceDesk.class.getDeclaredClasses()) {
      for (Method m : c.getDeclaredMethods()) hold(!names.contains(m.getName()), "a name of the face: " + m);
    }
    for (Method m : ChoiceDesk.class.getDeclaredMethods()) {
      hold(Modifier.isPublic(m.getModifiers()) || !names.contains(m.getName()), "a name of the face: " + m);
    }
    for (Field f : ChoiceDesk.class.getDeclaredFields()) hold(Modifier.isPrivate(f.getModifiers()), "not private: " + f);
    Constructor<?>[] made = ChoiceDesk.class.getDeclaredConstructors();
    hold(made.length == 1 && Modifier.isPublic(made[0].getModifiers()) && made[0].getParameterCount() == 0, "constructors");
    hold(Modifier.isFinal(ChoiceDesk.class.getModifiers()), "the class is not final");
  }

  private static void measures() {
    Class<?>[] inside = ChoiceDesk.class.getDeclaredClasses();
    hold(inside.length <= 12, "too many classes: " + inside.length);
    for (Class<?> c : inside) {
      hold(Modifier.isStatic(c.getModifiers()), "not static: " + c);
      long fields = Arrays.stream(c.getDeclaredFields()).filter(f -> !Modifier.isStatic(f.getModifiers())).count();
      hold(fields <= 20, "too many fields: " + c + " " + fields);
      for (Method m : c.getDeclaredMethods()) hold(m.getParameterCount() <= 7, "too many parameters: " + m);
      for (Field f : c.getDeclaredFields()) {
        hold(!Modifier.isStatic(f.getModifiers()) || Modifier.isFinal(f.getModifiers()), "static: " + f);
      }
    }
    for (Field f : ChoiceDesk.class.getDeclaredFields()) {
      hold(!Modifier.isStatic(f.getModifiers()) || Modifier.isFinal(f.getModifiers()), "static: " + f);
    }
  }

  private static void text() throws IOException {
    String source = Files.readString(SOURCE);
    hold(source.chars().allMatch(c -> c == 10 || c >= 32 && c < 127), "a sign that is not plain");
    String code = source.replaceAll("(?s)/\\*.*?\\*/", "").replaceAll("//[^\n]*", "");
    for (String f : FORBIDDEN) {
      Matcher m = Pattern.compile(f).matcher(code);
      hold(!m.find(), "forbidden: " + f);
    }
    Matcher calls = Pattern.compile("\\b(Math|Integer|Long|Arrays|System)\\.(\\w+)\\(").matcher(code);
    Set<String> library = Set.of("max", "min", "bitCount", "copyOf", "fill", "arraycopy");
    while (calls.find()) hold(library.contains(calls.group(2)), "of the library: " + calls.group());
    int started = 0;
    String[] lines = source.split("\n");
    for (int i = 0; i < lines.length; i++) {
      if (lines[i].matches("(    ){1,2}\\S.*\\) (throws .*)?\\{")) started = i;
      if (lines[i].matches("(    ){1,2}}")) hold(i - started < 60 || lines[i].startsWith("    }"), "long method, line " + started);
      hold(lines[i].length() <= 110, "long line " + (i + 1));
    }
  }

  public static void main(String[] args) throws IOException {
    face();
    measures();
    text();
    System.out.println(wrong == 0 ? "the face and the text are as told" : wrong + " things are not as told");
    if (wrong != 0) System.exit(1);
  }
}

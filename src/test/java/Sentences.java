import java.io.IOException;
import java.nio.file.Files;
import java.nio.file.Path;
import java.util.HashSet;
import java.util.LinkedHashMap;
import java.util.Map;
import java.util.Set;
import java.util.TreeSet;

/**
 * What the tests of single sentences share. A test quotes the words of the document that it holds
 * the class to; words that no test quotes, and quotes that the document doesn't have, are told.
 */
abstract class Sentences {
  static final int MOST = Integer.MAX_VALUE;
  static final int LEAST = Integer.MIN_VALUE;
  // Answers of calls that throw, beyond all that a call can answer.
  static final long ARGUMENT = 1L << 60;
  static final long STATE = 1L << 61;
  static final long OTHER = 1L << 62;

  private static final Map<String, String> TEXTS = new LinkedHashMap<>();
  private static final Map<String, boolean[]> QUOTED = new LinkedHashMap<>();
  private static String section = "";
  private static String words = "";
  private static int tests = 0;
  private static int asked = 0;
  private static int wrong = 0;
  private static final Set<String> BROKEN = new TreeSet<>();

  interface Maker {
    ChoiceDesk make();
  }

  interface Ask {
    long of(ChoiceDesk x);
  }

  /** A call of which one number is left open. */
  interface AskBy {
    long of(ChoiceDesk x, int n);
  }

  static void readDocument() throws IOException {
    String text = Files.readString(Path.of("../shared/DOC.md"));
    for (String part : text.split("(?m)^## ")) {
      String title = part.lines().findFirst().orElse("").replaceAll(":.*", "").trim();
      if (!title.equals("What it is") && !isPromised(title)) continue;
      String body = part.substring(part.indexOf('\n')).replaceAll("(?s)^\\s*`[^`]*`:", "").replaceAll("```(text)?", "");
      body = body.replaceAll("\\s+", " ").trim();
      TEXTS.put(title, body);
      QUOTED.put(title, new boolean[body.length()]);
    }
    if (TEXTS.size() != 43) note("the document has " + TEXTS.size() + " sections that tests quote, not 43");
  }

  private static boolean isPromised(String title) {
    return title.equals("Terms") || title.startsWith("Promise ");
  }

  static void section(String title) {
    section = title;
    words = "";
    if (!TEXTS.containsKey(title)) note("the document has no " + title);
  }

  /** Runs the test of these words of the section. */
  static void told(String quote, Runnable test) {
    words = quote;
    tests++;
    if (!isQuoted(quote)) note("the document doesn't say this");
    try {
      test.run();
    } catch (RuntimeException e) {
      note("threw " + e);
    }
  }

  /** Marks the first place of the words that no test has quoted yet. */
  private static boolean isQuoted(String quote) {
    String text = TEXTS.getOrDefault(section, "");
    boolean[] quoted = QUOTED.getOrDefault(section, new boolean[0]);
    int first = text.indexOf(quote);
    for (int at = first; at >= 0; at = text.indexOf(quote, at + 1)) {
      boolean isNew = false;
      for (int i = at; i < at + quote.length(); i++) isNew |= !quoted[i];
      for (int i = at; i < at + quote.length(); i++) quoted[i] = true;
      if (isNew) return true;
    }
    return first >= 0;
  }

  private static void findUntested() {
    for (Map.Entry<String, String> e : TEXTS.entrySet()) {
      boolean[] quoted = QUOTED.get(e.getKey());
      StringBuilder left = new StringBuilder();
      for (int i = 0; i < quoted.length; i++) left.append(quoted[i] ? ' ' : e.getValue().charAt(i));
      section = e.getKey();
      words = left.toString().replaceAll("\\s+", " ").trim();
      if (isPromised(section) && words.matches(".*[A-Za-z0-9].*")) note("no test quotes this");
    }
  }

  private static void note(String fault) {
    wrong++;
    BROKEN.add(section + " \"" + words + "\"");
    System.out.println(section + " \"" + words + "\" " + line() + ": " + fault);
  }

  /** The line of the test that asks just now. */
  private static String line() {
    for (StackTraceElement at : new Throwable().getStackTrace()) {
      String name = at.getClassName();
      if (name.endsWith("Sentences") && !name.equals("Sentences")) return at.getFileName() + ":" + at.getLineNumber();
    }
    return "";
  }

  static void due(long want, long got) {
    asked++;
    if (got != want) note("answered " + named(got) + ", due is " + named(want));
  }

  private static String named(long answer) {
    return answer == ARGUMENT ? "throws.IllegalArgumentException"
        : answer == STATE ? "throws.IllegalStateException"
        : answer == OTHER ? "throws.another" : String.valueOf(answer);
  }

  static long answer(ChoiceDesk x, Ask call) {
    try {
      return call.of(x);
    } catch (RuntimeException e) {
      return e.getClass() == IllegalArgumentException.class ? ARGUMENT
          : e.getClass() == IllegalStateException.class ? STATE : OTHER;
    }
  }

  /** The call is answered so, and afterwards the desk is as one on which it was never made. */
  static void refused(long want, Maker maker, Ask call) {
    ChoiceDesk x = maker.make();
    due(want, answer(x, call));
    String as = Looks.at(x);
    String was = Looks.at(maker.make());
    asked++;
    if (!as.equals(was)) note("a refused call changed something: " + was + " became " + as);
  }

  /** The call does change something, and looks tell it, so that refused(..) can be trusted. */
  static void changes(Maker maker, Ask call) {
    ChoiceDesk x = maker.make();
    call.of(x);
    asked++;
    if (Looks.at(x).equals(Looks.at(maker.make()))) note("looks don't tell that something was changed");
  }

  /** Numbers outside low .. high: the next ones, the greatest, and some that wrap into it. */
  static Set<Integer> outside(int low, int high) {
    int[] next = {low - 1, high + 1, low - 2, LEAST, MOST};
    int[] wrapped = {low - 256, low + 256, low + 65536, low | LEAST, high | 1 << 30};
    Set<Integer> found = new HashSet<>();
    for (int n : next) found.add(n);
    for (int n : wrapped) found.add(n);
    found.removeIf(n -> n >= low && n <= high);
    return found;
  }

  /** With each number outside low .. high the call is answered so. */
  static void refusedOutside(int low, int high, long want, Maker maker, AskBy call) {
    for (int n : outside(low, high)) refused(want, maker, x -> call.of(x, n));
  }

  /** Tells what was found: whether all is as due. */
  static boolean close() {
    findUntested();
    System.out.println(tests + " sentences, " + asked + " calls asked, " + wrong + " answered wrong");
    if (!BROKEN.isEmpty()) System.out.println("broken: " + BROKEN.size() + " sentences");
    return wrong == 0;
  }
}

import java.lang.reflect.InvocationTargetException;
import java.lang.reflect.Method;
import java.util.ArrayList;
import java.util.Arrays;
import java.util.HashMap;
import java.util.List;
import java.util.Map;
import java.util.Random;
import java.util.TreeMap;

/** Runs of up to 512 calls by a fixed seed, each answer held against PlainDesk's. */
public final class RandomRuns {
  private static final Map<String, Method> REAL = methods(ChoiceDesk.class);
  private static final Map<String, Method> PLAIN = methods(PlainDesk.class);
  private static final String[] NAMES = new TreeMap<>(PLAIN).keySet().toArray(new String[0]);
  private static final Map<String, Integer> SEEN = new TreeMap<>();
  private static int wrong = 0;

  private static Map<String, Method> methods(Class<?> c) {
    Map<String, Method> found = new HashMap<>();
    for (Method m : c.getDeclaredMethods()) {
      if (java.lang.reflect.Modifier.isPublic(m.getModifiers())) found.put(m.getName(), m);
    }
    return found;
  }

  private static String answer(Method m, Object on, Object[] args) throws IllegalAccessException {
    try {
      return m.invoke(on, args).toString();
    } catch (InvocationTargetException e) {
      return "throws." + e.getCause().getClass().getSimpleName();
    }
  }

  private final Random r;
  private final PlainDesk plain = new PlainDesk();
  private final ChoiceDesk real = new ChoiceDesk();
  private final List<String> told = new ArrayList<>();
  private final int mostWays;
  private final int busyBooks;
  private final int[] strange = {-1, -2, 8, 48, 64, 1000, Integer.MIN_VALUE, Integer.MAX_VALUE, 1 << 30, 256};

  private RandomRuns(int run) {
    r = new Random(run);
    mostWays = run % 50 == 0 ? 20000 : run % 5 == 0 ? 1000 : 150;
    // With one book alone the runs come to the limits of its sayings, rows and rules.
    busyBooks = 1 + run % 3;
  }

  private boolean rare() { return r.nextInt(40) == 0; }

  private int odd() { return strange[r.nextInt(strange.length)]; }

  private int below(int n) { return rare() ? odd() : r.nextInt(Math.max(n, 1)); }

  private int upTo(int low, int high) { return rare() ? odd() : low + r.nextInt(high - low + 1); }

  /** A value of question q of b, mostly. */
  private int valueOf(PlainDesk.B b, int q) {
    PlainDesk.Q x = PlainDesk.q(b, q);
    return x == null || r.nextInt(12) == 0 ? below(8) : x.values.get(r.nextInt(x.values.size()));
  }

  private Object[] ints(int... a) { return Arrays.stream(a).boxed().toArray(); }

  private Object[] question(int book) {
    int kind = upTo(0, 3);
    int things = 1 + r.nextInt(3);
    int least = r.nextInt(things + 1);
    int how = kind == 1 ? 2 : kind == 3 ? things + 10 * least + 100 * (least + r.nextInt(things - least + 1)) : upTo(1, 6);
    if (rare()) how = r.nextInt(500) - 10;
    return ints(book, r.nextInt(12), kind, how, rare() ? r.nextInt(300) - 150 : r.nextInt(5) - 2);
  }

  private Object[] saying(int book) {
    PlainDesk.B b = plain.book(book);
    int questions = b == null ? 1 : b.questions.size();
    int sayings = b == null ? 1 : b.sayings.size();
    int kind = upTo(0, 8);
    int x = kind < 2 ? below(questions) : kind < 7 ? below(sayings) : kind == 7 ? below(1 << questions) : below(b == null ? 1 : b.tables.size());
    int y = kind == 0 ? valueOf(b, x) : kind == 1 ? below(3) : kind < 7 ? below(sayings) : upTo(-2, 12);
    return ints(book, kind, x, y);
  }

  private Object[] row(int book) {
    PlainDesk.B b = plain.book(book);
    int t = below(b == null ? 1 : b.tables.size());
    int[] v = {below(8), below(8), below(8)};
    if (b != null && t >= 0 && t < b.tables.size()) {
      List<Integer> q = b.tables.get(t).questions;
      for (int i = 0; i < q.size(); i++) v[i] = valueOf(b, q.get(i));
    }
    return ints(book, t, v[0], v[1], v[2]);
  }

  private Object[] arguments(String name) {
    int book = below(r.nextInt(8) != 0 ? busyBooks : 4);
    int order = below(plain.orders.size());
    boolean byOrder = List.of("choose", "may", "why", "wish", "back", "value", "near").contains(name);
    PlainDesk.B b = byOrder ? plain.bookOf(order) : plain.book(book);
    int questions = b == null ? 1 : b.questions.size();
    int q = below(questions);
    int q2 = below(questions);
    switch (name) {
      case "question": return question(book);
      case "saying": return saying(book);
      case "table": return ints(book, q, r.nextInt(4) == 0 ? -1 : q2, r.nextInt(2) == 0 ? -1 : below(questions));
      case "row": return row(book);
      case "rule": return ints(book, below(b == null ? 1 : b.sayings.size()));
      case "drop":
      case "needless": return ints(book, b == null || b.rules.isEmpty() || rare() ? below(48) : b.rules.get(r.nextInt(b.rules.size())));
      case "turn": return ints(book, q, below(questions));
      case "size": return ints(book, rare() ? odd() : r.nextInt(questions + 2) - 1);
      case "dead":
      case "standard": return ints(book, q, valueOf(b, q));
      case "same": return ints(book, below(4));
      case "wholes":
      case "start": return ints(book);
      case "choose":
      case "may":
      case "why": return ints(order, q, valueOf(b, q));
      case "back":
      case "value":
      case "near": return ints(order, q);
      case "state": return ints(order, upTo(0, 3));
      case "choice": return ints(order, below(4));
      case "fill":
      case "nearest":
      case "fewest":
      case "cost":
      case "lost": return ints(order);
      case "wish": return ints(order, q, valueOf(b, q), rare() ? 1001 : r.nextInt(4) == 0 ? r.nextInt(1001) : r.nextInt(4));
      case "price": return ints(book, q, valueOf(b, q), rare() ? 1000001 : r.nextInt(7) - 3);
      case "pair": return ints(book, 8 * q + q2, 10 * valueOf(b, q) + valueOf(b, q2), rare() ? -1000001 : r.nextInt(200) - 100);
      case "step": return ints(book, below(1 << questions), upTo(-3, 10), rare() ? 1000001 : r.nextInt(200) - 100);
      case "limit": return new Object[] {order, r.nextBoolean()};
      case "carry": return ints(order, below(4));
      case "count": return ints(book, upTo(0, 6));
      case "keep": return ints(below(8), upTo(0, 4), book, r.nextBoolean() ? order : q);
      case "make": return ints(below(8), r.nextInt(8) == 0 ? r.nextInt(6) : 3 + r.nextInt(2), upTo(-1, 9));
      case "element": return ints(below(8), below(6));
      case "copy": return ints(below(8), below(4), below(8), below(4), below(5));
      default: return ints(below(8));
    }
  }

  /** Makes first the calls that build, so that the rest has something to ask. */
  private String pick(int i, int calls) {
    String[] first = {"question", "price", "standard", "wholes", "size", "keep", "pair", "step", "turn"};
    String[] then = {"table", "row", "row", "saying", "saying", "saying", "saying", "rule", "turn", "pair", "step", "price", "start"};
    String[] often = {"choose", "choose", "choose", "choose", "why", "may", "wish", "wish", "near"};
    int part = i * 10 / calls;
    if (part < 2 && r.nextInt(10) != 0) return first[r.nextInt(r.nextBoolean() ? 1 : first.length)];
    if (part < 4 && r.nextInt(10) != 0) return then[r.nextInt(then.length)];
    if (r.nextInt(4) == 0) return often[r.nextInt(often.length)];
    return NAMES[r.nextInt(NAMES.length)];
  }

  private boolean tooMany(String name, Object[] a) {
    if (!name.equals("question")) return false;
    PlainDesk.B b = plain.book((int) a[0]);
    long ways = 6;
    if (b != null) for (PlainDesk.Q q : b.questions) ways *= q.values.size();
    return ways > mostWays;
  }

  private void go(int run, int calls) throws IllegalAccessException {
    for (int i = 0; i < calls; i++) {
      String name = pick(i, calls);
      Object[] args = arguments(name);
      if (tooMany(name, args)) continue;
      String due = answer(PLAIN.get(name), plain, args);
      String got = answer(REAL.get(name), real, args);
      String call = name + Arrays.toString(args);
      told.add(call + " = " + due);
      boolean asLong = List.of("element", "cost", "limit", "weight").contains(name);
      boolean refused = due.startsWith("throws") || due.startsWith("-") && !asLong;
      SEEN.merge(name + (refused ? " " + due : " answers"), 1, Integer::sum);
      if (!due.equals(got)) {
        wrong++;
        System.out.println("run " + run + ": " + call + " answered " + got + ", due is " + due);
        if (wrong == 1) System.out.println(String.join("\n", told));
        return;
      }
    }
  }

  private void ask(String name, int... a) throws IllegalAccessException {
    String due = answer(PLAIN.get(name), plain, ints(a));
    String got = answer(REAL.get(name), real, ints(a));
    if (!due.equals(got)) {
      wrong++;
      System.out.println("large graph: " + name + Arrays.toString(a) + " answered " + got + ", due is " + due);
    }
  }

  /** Graphs with hundreds of places in a layer, which runs by chance hardly ever have. */
  private void goLarge() throws IllegalAccessException {
    for (int q = 0; q < 3; q++) ask("question", 0, q, 3, 303, 0);
    ask("question", 0, 3, 0, 6, 0);
    ask("question", 0, 4, 0, 6, 0);
    for (int i = 0; i < 12; i++) {
      ask("saying", 0, 1, i < 9 ? i / 3 : r.nextInt(3), i % 3);
      ask("saying", 0, 0, 3 + i / 6, i % 6);
      ask("saying", 0, r.nextInt(4) == 0 ? 4 : 5, 3 * i + 1, 3 * i);
      ask("rule", 0, 3 * i + 2);
    }
    for (int i = 0; i < 12; i++) {
      for (int k = -1; k <= 5; k++) ask("size", 0, k);
      ask("turn", 0, r.nextInt(5), r.nextInt(5));
      if (i % 4 == 3) ask("drop", 0, 3 * r.nextInt(12) + 2);
    }
  }

  public static void main(String[] args) throws IllegalAccessException {
    int runs = args.length > 0 ? Integer.parseInt(args[0]) : 600;
    int first = args.length > 1 ? Integer.parseInt(args[1]) : 0;
    for (int run = first; run < first + runs; run++) {
      new RandomRuns(run).go(run, 512);
    }
    for (int run = 0; run < 10; run++) new RandomRuns(run).goLarge();
    if (args.length > 0) SEEN.forEach((k, v) -> System.out.println(k + ": " + v));
    System.out.println(wrong == 0 ? "all runs are as due" : wrong + " runs are not as due");
    if (wrong != 0) System.exit(1);
  }
}

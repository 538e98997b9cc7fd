import java.util.ArrayList;
import java.util.Arrays;
import java.util.HashMap;
import java.util.HashSet;
import java.util.LinkedHashMap;
import java.util.List;
import java.util.Map;
import java.util.Set;

/**
 * The document told again in the slowest and plainest way: every way is a list of values, every
 * answer is found by looking at all wholes. RandomRuns holds ChoiceDesk against it.
 */
public final class PlainDesk {
  static final class Q {
    int name, kind, from, n;
    List<Integer> values = new ArrayList<>();
    int standard;
    Map<Integer, Integer> prices = new HashMap<>();

    int worth(int v) {
      return kind == 2 ? v + from : kind == 3 ? Integer.bitCount(v) : v;
    }
  }

  static final class T {
    List<Integer> questions = new ArrayList<>();
    List<List<Integer>> rows = new ArrayList<>();
  }

  static final class B {
    List<Q> questions = new ArrayList<>();
    List<int[]> sayings = new ArrayList<>();
    List<T> tables = new ArrayList<>();
    List<Integer> rules = new ArrayList<>();
    List<Integer> turn = new ArrayList<>();
    List<int[]> pairs = new ArrayList<>();
    List<int[]> steps = new ArrayList<>();
    List<List<Integer>> wholes;

    boolean holds(int s, List<Integer> way) {
      int[] t = sayings.get(s);
      switch (t[0]) {
        case 0: return way.get(t[1]) == t[2];
        case 1: return (way.get(t[1]) & (1 << t[2])) != 0;
        case 2: return !holds(t[1], way);
        case 3: return holds(t[1], way) && holds(t[2], way);
        case 4: return holds(t[1], way) || holds(t[2], way);
        case 5: return !holds(t[1], way) || holds(t[2], way);
        case 6: return holds(t[1], way) == holds(t[2], way);
        case 7: return worths(t[1], way) <= t[2];
        default:
          T table = tables.get(t[1]);
          List<Integer> row = new ArrayList<>();
          for (int q : table.questions) row.add(way.get(q));
          return table.rows.contains(row);
      }
    }

    long worths(int set, List<Integer> way) {
      long sum = 0;
      for (int q = 0; q < questions.size(); q++) {
        if ((set & (1 << q)) != 0) sum += questions.get(q).worth(way.get(q));
      }
      return sum;
    }

    List<List<Integer>> ways() {
      List<List<Integer>> found = new ArrayList<>();
      found.add(new ArrayList<>());
      for (Q q : questions) {
        List<List<Integer>> longer = new ArrayList<>();
        for (List<Integer> w : found) {
          for (int v : q.values) {
            List<Integer> x = new ArrayList<>(w);
            x.add(v);
            longer.add(x);
          }
        }
        found = longer;
      }
      return found;
    }

    List<List<Integer>> wholesBut(int but) {
      List<List<Integer>> found = new ArrayList<>();
      for (List<Integer> w : ways()) {
        boolean all = true;
        for (int s : rules) all = all && (s == but || holds(s, w));
        if (all) found.add(w);
      }
      return found;
    }

    List<List<Integer>> wholes() {
      if (wholes == null) wholes = wholesBut(-1);
      return wholes;
    }

    long priceOf(List<Integer> w) {
      long sum = 0;
      for (int q = 0; q < w.size(); q++) sum += questions.get(q).prices.getOrDefault(w.get(q), 0);
      for (int[] p : pairs) if (w.get(p[0]) == p[2] && w.get(p[1]) == p[3]) sum += p[4];
      for (int[] s : steps) if (worths(s[0], w) >= s[1]) sum += s[2];
      return sum;
    }

    int layer(int k) {
      Map<List<Integer>, Set<List<Integer>>> rests = new HashMap<>();
      for (List<Integer> w : wholes()) {
        List<Integer> by = new ArrayList<>();
        for (int q : turn) by.add(w.get(q));
        rests.computeIfAbsent(by.subList(0, k), x -> new HashSet<>()).add(by.subList(k, by.size()));
      }
      return new HashSet<>(rests.values()).size();
    }
  }

  static final class O {
    int book;
    int lost;
    Map<Integer, Integer> choices = new LinkedHashMap<>();
    Map<Integer, int[]> wishes = new HashMap<>();
  }

  final B[] books = {new B(), new B(), new B(), new B()};
  final List<O> orders = new ArrayList<>();
  final Object[] shelves = new Object[8];

  B book(int b) { return b < 0 || b > 3 ? null : books[b]; }

  O order(int o) { return o < 0 || o >= orders.size() ? null : orders.get(o); }

  B bookOf(int o) { return order(o) == null ? null : books[order(o).book]; }

  static Q q(B b, int q) { return b == null || q < 0 || q >= b.questions.size() ? null : b.questions.get(q); }

  static boolean isValue(B b, int q, int v) { return q(b, q) != null && q(b, q).values.contains(v); }

  static boolean isSaying(B b, int s) { return s >= 0 && s < b.sayings.size(); }

  static boolean isPrice(int v) { return v >= -1000000 && v <= 1000000; }

  static boolean isSet(B b, int set) { return set >= 0 && set >> b.questions.size() == 0; }

  public int question(int book, int name, int kind, int how, int from) {
    B b = book(book);
    if (b == null || kind < 0 || kind > 3) return -1;
    for (Q x : b.questions) if (x.name == name) return -1;
    Q q = new Q();
    q.name = name;
    q.kind = kind;
    if (kind == 3) {
      boolean found = false;
      for (int n = 1; n <= 3; n++) for (int l = 0; l <= n; l++) for (int g = l; g <= n; g++) {
        if (how == n + 10 * l + 100 * g) {
          found = true;
          q.n = n;
          for (int v = 0; v < 8; v++) {
            if (v >> n == 0 && Integer.bitCount(v) >= l && Integer.bitCount(v) <= g) q.values.add(v);
          }
        }
      }
      if (!found) return -1;
    } else {
      if (how < 1 || how > 6 || kind == 1 && how != 2) return -1;
      if (kind == 2 && (from < -100 || from > 100)) return -1;
      q.from = from;
      for (int v = 0; v < how; v++) q.values.add(v);
    }
    q.standard = q.values.get(0);
    long ways = q.values.size();
    for (Q x : b.questions) ways *= x.values.size();
    if (b.questions.size() == 8 || ways > 20000) return -2;
    if (!b.sayings.isEmpty() || !b.tables.isEmpty()) return -3;
    for (O o : orders) if (o.book == book) return -3;
    b.turn.add(b.questions.size());
    b.questions.add(q);
    b.wholes = null;
    return b.questions.size() - 1;
  }

  public int saying(int book, int kind, int x, int y) {
    B b = book(book);
    if (b == null || kind < 0 || kind > 8) return -1;
    if (kind == 0 && !isValue(b, x, y)) return -1;
    if (kind == 1 && (q(b, x) == null || q(b, x).kind != 3 || y < 0 || y >= q(b, x).n)) return -1;
    if (kind == 2 && !isSaying(b, x)) return -1;
    if (kind >= 3 && kind <= 6 && !(isSaying(b, x) && isSaying(b, y))) return -1;
    if (kind == 7 && !isSet(b, x)) return -1;
    if (kind == 8 && (x < 0 || x >= b.tables.size())) return -1;
    if (b.sayings.size() == 48) return -2;
    b.sayings.add(new int[] {kind, x, y});
    return b.sayings.size() - 1;
  }

  public int table(int book, int x, int y, int z) {
    B b = book(book);
    if (q(b, x) == null || y == x || y != -1 && q(b, y) == null) return -1;
    if (z != -1 && (q(b, z) == null || y == -1 || z == x || z == y)) return -1;
    if (b.tables.size() == 4) return -2;
    T t = new T();
    for (int q : new int[] {x, y, z}) if (q != -1) t.questions.add(q);
    b.tables.add(t);
    return b.tables.size() - 1;
  }

  public int row(int book, int table, int x, int y, int z) {
    B b = book(book);
    if (b == null || table < 0 || table >= b.tables.size()) return -1;
    T t = b.tables.get(table);
    int[] all = {x, y, z};
    List<Integer> row = new ArrayList<>();
    for (int i = 0; i < t.questions.size(); i++) {
      if (!isValue(b, t.questions.get(i), all[i])) return -1;
      row.add(all[i]);
    }
    if (t.rows.size() == 20) return -2;
    t.rows.add(row);
    b.wholes = null;
    return t.rows.size();
  }

  public int rule(int book, int saying) {
    B b = book(book);
    if (b == null || !isSaying(b, saying)) return -1;
    if (b.rules.size() == 16) return -2;
    if (b.rules.contains(saying)) return -3;
    b.rules.add(saying);
    b.wholes = null;
    return b.rules.size();
  }

  public int drop(int book, int saying) {
    B b = book(book);
    if (b == null || !b.rules.contains(saying)) return -1;
    b.rules.remove((Integer) saying);
    b.wholes = null;
    return b.rules.size();
  }

  public int turn(int book, int question, int place) {
    B b = book(book);
    if (q(b, question) == null || place < 0 || place >= b.questions.size()) return -1;
    int was = b.turn.indexOf(question);
    b.turn.remove(was);
    b.turn.add(place, question);
    return was;
  }

  public int wholes(int book) { return book(book) == null ? -1 : book(book).wholes().size(); }

  public int size(int book, int k) {
    B b = book(book);
    if (b == null || k < -1 || k > b.questions.size()) return -1;
    if (k >= 0) return b.layer(k);
    int sum = 0;
    for (int i = 0; i <= b.questions.size(); i++) sum += b.layer(i);
    return sum;
  }

  public int dead(int book, int question, int value) {
    B b = book(book);
    if (!isValue(b, question, value)) return -1;
    for (List<Integer> w : b.wholes()) if (w.get(question) == value) return 0;
    return 1;
  }

  public int needless(int book, int saying) {
    B b = book(book);
    if (b == null || !b.rules.contains(saying)) return -1;
    return b.wholesBut(saying).equals(b.wholes()) ? 1 : 0;
  }

  private static Set<Map<Integer, Integer>> byName(B b) {
    Set<Map<Integer, Integer>> found = new HashSet<>();
    for (List<Integer> w : b.wholes()) {
      Map<Integer, Integer> m = new HashMap<>();
      for (int q = 0; q < w.size(); q++) m.put(b.questions.get(q).name, w.get(q));
      found.add(m);
    }
    return found;
  }

  private static Set<Integer> names(B b) {
    Set<Integer> found = new HashSet<>();
    for (Q q : b.questions) found.add(q.name);
    return found;
  }

  public int same(int book, int other) {
    B b = book(book);
    B c = book(other);
    if (b == null || c == null) return -1;
    return names(b).equals(names(c)) && byName(b).equals(byName(c)) ? 1 : 0;
  }

  public int start(int book) {
    if (book(book) == null) return -1;
    if (orders.size() == 12) return -2;
    O o = new O();
    o.book = book;
    orders.add(o);
    return orders.size() - 1;
  }

  private List<List<Integer>> fitting(O o, int but) {
    List<List<Integer>> found = new ArrayList<>();
    for (List<Integer> w : books[o.book].wholes()) {
      boolean all = true;
      for (int q : o.choices.keySet()) all = all && (q == but || w.get(q).equals(o.choices.get(q)));
      if (all) found.add(w);
    }
    return found;
  }

  private List<Integer> mays(O o, int q) {
    Set<Integer> found = new HashSet<>();
    for (List<Integer> w : fitting(o, q)) found.add(w.get(q));
    List<Integer> sorted = new ArrayList<>(found);
    sorted.sort(null);
    return sorted;
  }

  public int choose(int order, int question, int value) {
    if (!isValue(bookOf(order), question, value)) return -1;
    O o = order(order);
    if (!mays(o, question).contains(value)) return -3;
    o.choices.remove(question);
    o.choices.put(question, value);
    return o.choices.size();
  }

  public int back(int order, int question) {
    if (q(bookOf(order), question) == null) return -1;
    Integer was = order(order).choices.remove(question);
    return was == null ? -2 : was;
  }

  public int may(int order, int question, int value) {
    if (!isValue(bookOf(order), question, value)) return -1;
    return mays(order(order), question).contains(value) ? 1 : 0;
  }

  public int value(int order, int question) {
    if (q(bookOf(order), question) == null) return -1;
    O o = order(order);
    if (o.choices.containsKey(question)) return o.choices.get(question);
    return mays(o, question).size() == 1 ? mays(o, question).get(0) : -2;
  }

  public int state(int order, int what) {
    O o = order(order);
    if (o == null || what < 0 || what > 3) return -1;
    if (what == 2) return fitting(o, -1).size();
    if (what == 3) return o.book;
    int bits = 0;
    for (int q = 0; q < books[o.book].questions.size(); q++) {
      boolean has = o.choices.containsKey(q);
      if (what == 0 ? has : !has && mays(o, q).size() == 1) bits += 1 << q;
    }
    return bits;
  }

  public int choice(int order, int i) {
    O o = order(order);
    if (o == null || i < 0 || i >= o.choices.size()) return -1;
    return new ArrayList<>(o.choices.keySet()).get(i);
  }

  public int why(int order, int question, int value) {
    if (!isValue(bookOf(order), question, value)) return -1;
    O o = order(order);
    if (mays(o, question).contains(value)) return -2;
    int best = -1;
    for (int set = 0; set < 256; set++) {
      boolean ofChoices = (set & (1 << question)) == 0;
      for (int q = 0; q < 8; q++) ofChoices &= (set & (1 << q)) == 0 || o.choices.containsKey(q);
      if (!ofChoices || best >= 0 && Integer.bitCount(best) <= Integer.bitCount(set)) continue;
      boolean had = false;
      for (List<Integer> w : books[o.book].wholes()) {
        boolean all = w.get(question) == value;
        for (int q : o.choices.keySet()) all &= (set & (1 << q)) == 0 || w.get(q).equals(o.choices.get(q));
        had |= all;
      }
      if (!had) best = set;
    }
    return best;
  }

  public int standard(int book, int question, int value) {
    B b = book(book);
    if (!isValue(b, question, value)) return -1;
    int was = q(b, question).standard;
    q(b, question).standard = value;
    return was;
  }

  public int fill(int order) {
    O o = order(order);
    if (o == null) return -1;
    if (fitting(o, -1).isEmpty()) return -4;
    int got = 0;
    for (int q : books[o.book].turn) {
      if (o.choices.containsKey(q)) continue;
      List<Integer> may = mays(o, q);
      int standard = books[o.book].questions.get(q).standard;
      o.choices.put(q, may.contains(standard) ? standard : may.get(0));
      got++;
    }
    return got;
  }

  public int wish(int order, int question, int value, int weight) {
    if (!isValue(bookOf(order), question, value) || weight < 0 || weight > 1000) return -1;
    O o = order(order);
    o.wishes.remove(question);
    if (weight > 0) o.wishes.put(question, new int[] {value, weight});
    return o.wishes.size();
  }

  private static int missed(O o, List<Integer> w, boolean weighed) {
    int sum = 0;
    for (int q : o.wishes.keySet()) {
      int[] x = o.wishes.get(q);
      if (w.get(q) != x[0]) sum += weighed ? x[1] : 1;
    }
    return sum;
  }

  private List<Integer> nearestWhole(O o, boolean weighed) {
    List<Integer> best = null;
    for (List<Integer> w : fitting(o, -1)) {
      if (best == null || missed(o, w, weighed) < missed(o, best, weighed)
          || missed(o, w, weighed) == missed(o, best, weighed)
              && Arrays.compare(ints(w), ints(best)) < 0) best = w;
    }
    return best;
  }

  private static int[] ints(List<Integer> w) { return w.stream().mapToInt(x -> x).toArray(); }

  public int nearest(int order) {
    O o = order(order);
    if (o == null) return -1;
    List<Integer> w = nearestWhole(o, true);
    return w == null ? -4 : missed(o, w, true);
  }

  public int near(int order, int question) {
    if (q(bookOf(order), question) == null) return -1;
    List<Integer> w = nearestWhole(order(order), true);
    return w == null ? -4 : w.get(question);
  }

  public int fewest(int order) {
    O o = order(order);
    if (o == null) return -1;
    List<Integer> w = nearestWhole(o, false);
    return w == null ? -4 : missed(o, w, false);
  }

  public int price(int book, int question, int value, int v) {
    B b = book(book);
    if (!isValue(b, question, value) || !isPrice(v)) return -1;
    Integer was = q(b, question).prices.put(value, v);
    return (was == null ? 0 : was) == v ? 0 : 1;
  }

  public int pair(int book, int questions, int values, int v) {
    B b = book(book);
    if (b == null || !isPrice(v)) return -1;
    for (int x = 0; x < 8; x++) for (int y = 0; y < 8; y++) for (int a = 0; a < 8; a++) for (int c = 0; c < 8; c++) {
      if (8 * x + y == questions && 10 * a + c == values && x != y && isValue(b, x, a) && isValue(b, y, c)) {
        if (b.pairs.size() == 20) return -2;
        b.pairs.add(new int[] {x, y, a, c, v});
        return b.pairs.size();
      }
    }
    return -1;
  }

  public int step(int book, int set, int n, int v) {
    B b = book(book);
    if (b == null || !isSet(b, set) || !isPrice(v)) return -1;
    if (b.steps.size() == 10) return -2;
    b.steps.add(new int[] {set, n, v});
    return b.steps.size();
  }

  public long cost(int order) {
    O o = order(order);
    if (o == null) throw new IllegalArgumentException();
    List<List<Integer>> f = fitting(o, -1);
    if (f.size() != 1) throw new IllegalStateException();
    return books[o.book].priceOf(f.get(0));
  }

  public long limit(int order, boolean most) {
    O o = order(order);
    if (o == null) throw new IllegalArgumentException();
    List<List<Integer>> f = fitting(o, -1);
    if (f.isEmpty()) throw new IllegalStateException();
    long best = books[o.book].priceOf(f.get(0));
    for (List<Integer> w : f) {
      long p = books[o.book].priceOf(w);
      best = most ? Math.max(best, p) : Math.min(best, p);
    }
    return best;
  }

  public int carry(int order, int book) {
    O old = order(order);
    if (old == null || book(book) == null) return -1;
    if (orders.size() == 12) return -2;
    O o = new O();
    o.book = book;
    orders.add(o);
    int number = orders.size() - 1;
    for (int q : old.choices.keySet()) {
      int name = books[old.book].questions.get(q).name;
      boolean carried = false;
      for (int to = 0; to < books[book].questions.size(); to++) {
        if (books[book].questions.get(to).name == name) carried = choose(number, to, old.choices.get(q)) > 0;
      }
      if (!carried) o.lost |= 1 << q;
    }
    return number;
  }

  public int lost(int order) { return order(order) == null ? -1 : order(order).lost; }

  public int count(int book, int what) {
    if (what == 6) return orders.size();
    B b = book(book);
    if (b == null || what < 0 || what > 5) return -1;
    return List.of(b.questions, b.sayings, b.tables, b.rules, b.pairs, b.steps).get(what).size();
  }

  public int keep(int d, int what, int book, int k) {
    if (d < 0 || d > 7) return -1;
    if (what == 0) {
      shelves[d] = null;
      return 0;
    }
    if (what == 3) {
      if (order(k) == null) return -1;
      List<Integer> w = nearestWhole(order(k), true);
      if (w == null) return -4;
      short[] row = new short[w.size()];
      for (int i = 0; i < row.length; i++) row[i] = (short) (int) w.get(i);
      shelves[d] = row;
      return 0;
    }
    Q q = q(book(book), k);
    if (q == null || what != 1 && what != 4) return -1;
    shelves[d] = what == 1 ? q : q.values.stream().mapToLong(v -> q.prices.getOrDefault(v, 0)).toArray();
    return 0;
  }

  public int make(int d, int what, int n) {
    if (d < 0 || d > 7 || what != 3 && what != 4 || n > 60) return -1;
    if (n < 0) return -14;
    shelves[d] = what == 3 ? new short[n] : new long[n];
    return 0;
  }

  public long element(int d, int i) {
    if (d < 0 || d > 7) throw new IllegalArgumentException();
    Object x = shelves[d];
    if (x instanceof short[] s && i >= 0 && i < s.length) return s[i];
    if (x instanceof long[] s && i >= 0 && i < s.length) return s[i];
    throw new IllegalStateException();
  }

  public int copy(int d, int i, int e, int j, int n) {
    if (d < 0 || d > 7 || e < 0 || e > 7) return -1;
    Object x = shelves[d];
    Object y = shelves[e];
    if (x == null || y == null) return -11;
    if (x instanceof Q || x.getClass() != y.getClass()) return -12;
    long xs = java.lang.reflect.Array.getLength(x);
    long ys = java.lang.reflect.Array.getLength(y);
    if (n < 0 || i < 0 || j < 0 || (long) i + n > xs || (long) j + n > ys) return -13;
    System.arraycopy(x, i, y, j, n);
    return n;
  }

  public int weight(int d) {
    if (d < 0 || d > 7) throw new IllegalArgumentException();
    if (!(shelves[d] instanceof Q)) throw new IllegalStateException();
    Q q = (Q) shelves[d];
    int plain = 10 + q.values.size();
    return q.kind == 1 ? 2 * plain : q.kind == 2 ? plain + q.from : q.kind == 3 ? plain + 100 : plain;
  }

  public int toss(int d) {
    if (d < 0 || d > 7) return -1;
    if (shelves[d] == null) return -11;
    if (!(shelves[d] instanceof Q)) return -12;
    if (((Q) shelves[d]).kind == 0) return -15;
    int number = -1;
    for (B b : books) number = Math.max(number, b.questions.indexOf(shelves[d]));
    return number;
  }
}

/**
 * All that the answers of a desk tell of it, in one text. What can be seen only by calls that
 * change something stands last, so a desk that was looked at is of no further use. There are few
 * enough calls that a desk of Desks stays below the 512 for which the document promises anything.
 */
final class Looks {
  private static final int BOOKS = 4;
  private static final int SHELVES = 8;
  // Names that tests give, which a refused question must not leave behind.
  private static final int[] NAMES = {0, 7, 8, 9, 50, 99};

  private final ChoiceDesk x;
  private final StringBuilder text = new StringBuilder();

  private Looks(ChoiceDesk x) {
    this.x = x;
  }

  static String at(ChoiceDesk x) {
    Looks l = new Looks(x);
    for (int b = 0; b < BOOKS; b++) l.book(b);
    int orders = x.count(0, 6);
    for (int o = 0; o < orders; o++) l.order(o);
    for (int d = 0; d < SHELVES; d++) l.shelf(d);
    l.kindsOfRows();
    for (int o = 0; o < orders; o++) l.wishes(o);
    for (int b = 0; b < BOOKS; b++) l.hidden(b);
    return l.text.toString();
  }

  private void tell(long answer) {
    text.append(answer).append(' ');
  }

  private long asked(Sentences.Ask call) {
    return Sentences.answer(x, call);
  }

  private void book(int b) {
    text.append("book ");
    int questions = x.count(b, 0);
    int sayings = x.count(b, 1);
    for (int what = 0; what < 6; what++) tell(x.count(b, what));
    tell(x.wholes(b));
    for (int k = -1; k <= questions; k++) tell(x.size(b, k));
    for (int s = 0; s < sayings; s++) tell(x.needless(b, s));
    for (int c = b + 1; c < BOOKS; c++) tell(x.same(b, c));
  }

  private void order(int o) {
    text.append("order ");
    for (int what = 0; what < 4; what++) tell(x.state(o, what));
    int choices = Integer.bitCount(x.state(o, 0));
    int questions = x.count(x.state(o, 3), 0);
    for (int i = 0; i < choices; i++) tell(x.choice(o, i));
    for (int q = 0; q < questions; q++) {
      tell(x.value(o, q));
      tell(x.near(o, q));
    }
    tell(x.lost(o));
    tell(x.nearest(o));
    tell(x.fewest(o));
    tell(asked(y -> y.limit(o, false)));
    tell(asked(y -> y.limit(o, true)));
  }

  private void shelf(int d) {
    text.append("shelf ");
    tell(x.toss(d));
    tell(asked(y -> y.weight(d)));
    elements(d);
  }

  private void elements(int d) {
    long element = 0;
    for (int i = 0; i < 61 && element != Sentences.STATE; i++) {
      int at = i;
      element = asked(y -> y.element(d, at));
      tell(element);
    }
  }

  private void kindsOfRows() {
    for (int d = 0; d < SHELVES - 1; d++) tell(x.copy(d, 0, 7, 0, 0));
    tell(x.make(7, 3, 0));
    for (int d = 0; d < SHELVES - 1; d++) tell(x.copy(d, 0, 7, 0, 0));
  }

  /** Without the choices, wishes that were met or out of reach are told too. */
  private void wishes(int o) {
    text.append("wishes ");
    int questions = x.count(x.state(o, 3), 0);
    for (int q = 0; q < questions; q++) tell(x.back(o, q));
    tell(x.nearest(o));
    tell(x.fewest(o));
    for (int q = 0; q < questions; q++) {
      for (int v = 0; v < 8; v++) {
        if (x.may(o, q, v) != -1) {
          tell(x.wish(o, q, v, 0));
          break;
        }
      }
    }
  }

  private void saying(int b, int s) {
    int rules = x.rule(b, s);
    tell(rules);
    tell(x.wholes(b));
    if (rules > 0) tell(x.drop(b, s));
  }

  private void hidden(int b) {
    text.append("hidden ");
    int questions = x.count(b, 0);
    int sayings = x.count(b, 1);
    int tables = x.count(b, 2);
    for (int t = 0; t < tables; t++) tell(x.row(b, t, 0, 0, 0));
    for (int q = 0; q < questions; q++) {
      tell(x.keep(0, 4, b, q));
      elements(0);
    }
    for (int s = 0; s < sayings; s++) saying(b, s);
    for (int name : NAMES) tell(x.question(b, name, 0, 1, 0));
    int order = x.start(b);
    tell(order);
    if (order >= 0) {
      tell(asked(y -> y.limit(order, false)));
      tell(asked(y -> y.limit(order, true)));
      tell(x.fill(order));
      for (int q = 0; q < questions; q++) tell(x.value(order, q));
    }
    for (int q = 0; q < questions; q++) {
      for (int v = 0; v < 8; v++) {
        if (x.dead(b, q, v) != -1) {
          tell(x.standard(b, q, v));
          break;
        }
      }
      tell(x.turn(b, q, 0));
    }
  }
}

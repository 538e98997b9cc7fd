/** Each promise by hand: ordinary inputs, the edges that the document names, and wrong inputs. */
public final class PromiseTests {
  private static final int ARGUMENT = 1;
  private static final int STATE = 2;
  private static final int MOST = Integer.MAX_VALUE;
  private static final int LEAST = Integer.MIN_VALUE;
  private static int wrong = 0;
  private static int asked = 0;
  private static int promise = 0;

  private interface Call {
    long ask();
  }

  private static void due(long want, long got) {
    asked++;
    if (got != want) {
      wrong++;
      StackTraceElement at = new Throwable().getStackTrace()[1];
      System.out.println("promise " + promise + ", line " + at.getLineNumber() + ": answered " + got + ", due is " + want);
    }
  }

  private static int thrown(Call c) {
    try {
      c.ask();
    } catch (IllegalArgumentException e) {
      return ARGUMENT;
    } catch (IllegalStateException e) {
      return STATE;
    }
    return 0;
  }

  /** Book 0: ONE of 3 (name 50), YES (51), NUMBER of 4 from 10 (52): 24 ways. */
  private static ChoiceDesk threeQuestions() {
    ChoiceDesk x = new ChoiceDesk();
    x.question(0, 50, 0, 3, 0);
    x.question(0, 51, 1, 2, 0);
    x.question(0, 52, 2, 4, 10);
    return x;
  }

  /** A rule that no whole keeps, in a book of which SAYING 0 .. are none yet. */
  private static void breakAll(ChoiceDesk x, int book) {
    int s = x.saying(book, 7, 0, -1);
    x.rule(book, s);
  }

  private static void newObject() {
    ChoiceDesk x = new ChoiceDesk();
    for (int b = 0; b < 4; b++) {
      for (int what = 0; what < 7; what++) due(0, x.count(b, what));
      due(1, x.wholes(b));
      due(1, x.size(b, 0));
      due(1, x.size(b, -1));
    }
    due(-1, x.state(0, 0));
    for (int d = 0; d < 8; d++) due(-11, x.toss(d));
  }

  private static void question() {
    ChoiceDesk x = new ChoiceDesk();
    due(-1, x.question(-1, 1, 0, 2, 0));
    due(-1, x.question(4, 1, 0, 2, 0));
    due(-1, x.question(0, 1, -1, 2, 0));
    due(-1, x.question(0, 1, 4, 2, 0));
    for (int how : new int[] {0, 7, -1, MOST, LEAST}) {
      due(-1, x.question(0, 1, 0, how, 0));
      due(-1, x.question(0, 1, 1, how, 0));
      due(-1, x.question(0, 1, 2, how, 0));
      due(-1, x.question(0, 1, 3, how, 0));
    }
    due(-1, x.question(0, 1, 1, 1, 0));
    due(-1, x.question(0, 1, 1, 3, 0));
    due(-1, x.question(0, 1, 2, 3, 101));
    due(-1, x.question(0, 1, 2, 3, -101));
    due(-1, x.question(0, 1, 3, 214, 0));
    due(-1, x.question(0, 1, 3, 403, 0));
    due(-1, x.question(0, 1, 3, 123, 0));
    due(-1, x.question(0, 1, 3, 332, 0));
    due(-1, x.question(0, 1, 3, 1003, 0));
    due(-1, x.question(0, 1, 3, -213, 0));
    due(-1, x.question(0, 1, 3, 200, 0));
    due(0, x.count(0, 0));
    due(0, x.question(0, MOST, 0, 1, MOST));
    due(1, x.question(0, LEAST, 1, 2, LEAST));
    due(2, x.question(0, 0, 2, 6, -100));
    due(3, x.question(0, 1, 2, 1, 100));
    due(4, x.question(0, 2, 3, 3, 999));
    due(5, x.question(0, 3, 3, 333, 0));
    due(-1, x.question(0, 3, 0, 2, 0));
    due(0, x.question(1, 3, 0, 2, 0));
    due(6, x.question(0, 4, 3, 111, 0));
    due(7, x.question(0, 5, 3, 202, 0));
    due(8, x.count(0, 0));
    due(48, x.wholes(0));
    due(-2, x.question(0, 6, 0, 1, 0));
    due(-1, x.question(0, 5, 0, 1, 0));
  }

  private static void questionLimits() {
    ChoiceDesk x = new ChoiceDesk();
    for (int i = 0; i < 5; i++) x.question(0, i, 0, 5, 0);
    due(-2, x.question(0, 10, 3, 303, 0));
    due(5, x.question(0, 10, 0, 6, 0));
    due(18750, x.wholes(0));
    due(-2, x.question(0, 11, 0, 2, 0));
    due(6, x.question(0, 11, 0, 1, 0));
    x.saying(0, 0, 0, 0);
    due(-2, x.question(0, 12, 1, 2, 0));
    due(-3, x.question(0, 12, 0, 1, 0));
    for (int i = 0; i < 4; i++) x.question(1, i, 0, 5, 0);
    x.question(1, 4, 0, 4, 0);
    due(5, x.question(1, 5, 3, 303, 0));
    due(20000, x.wholes(1));
    due(7, x.size(1, -1));
    x.question(2, 0, 0, 2, 0);
    x.table(2, 0, -1, -1);
    due(-3, x.question(2, 1, 0, 2, 0));
    x.start(3);
    due(-3, x.question(3, 1, 0, 2, 0));
    ChoiceDesk y = new ChoiceDesk();
    y.start(0);
    y.carry(0, 1);
    due(-3, y.question(1, 1, 0, 2, 0));
    due(0, y.question(2, 1, 0, 2, 0));
  }

  /** Eight questions, the last with eight values: every inner row is used to its end. */
  private static void fullBook() {
    ChoiceDesk x = new ChoiceDesk();
    for (int q = 0; q < 7; q++) x.question(0, q, 1, 2, 0);
    due(7, x.question(0, 7, 3, 303, 0));
    due(1024, x.wholes(0));
    due(-1, x.dead(0, 8, 0));
    due(-1, x.standard(0, 8, 0));
    due(-1, x.turn(0, 8, 0));
    due(-1, x.turn(0, 0, 8));
    due(-1, x.size(0, 9));
    due(-1, x.saying(0, 0, 8, 0));
    due(-1, x.saying(0, 7, 256, 0));
    due(-1, x.step(0, 256, 0, 0));
    due(-1, x.pair(0, 64, 0, 0));
    due(-1, x.table(0, 0, 8, -1));
    due(-1, x.keep(0, 1, 0, 8));
    x.start(0);
    due(-1, x.choose(0, 8, 0));
    due(-1, x.value(0, 8));
    due(-1, x.near(0, 8));
    due(9, x.size(0, -1));
    x.wish(0, 7, 7, 3);
    due(0, x.nearest(0));
    due(7, x.near(0, 7));
    x.price(0, 7, 7, 9);
    x.step(0, 255, 10, 90);
    due(99, x.limit(0, true));
    due(0, x.limit(0, false));
    due(8, x.fill(0));
    due(7, x.choice(0, 7));
    due(-1, x.choice(0, 8));
    due(1, x.same(0, 0));
    due(1, x.carry(0, 0));
    due(0, x.lost(1));
    due(255, x.state(1, 0));
  }

  private static void sayingRefusals() {
    ChoiceDesk x = threeQuestions();
    x.question(0, 53, 3, 202, 0);
    due(-1, x.saying(4, 7, 0, 0));
    due(-1, x.saying(-1, 7, 0, 0));
    due(-1, x.saying(0, 9, 0, 0));
    due(-1, x.saying(0, -1, 0, 0));
    due(-1, x.saying(0, 0, 0, 3));
    due(-1, x.saying(0, 0, 4, 0));
    due(-1, x.saying(0, 0, -1, 0));
    due(-1, x.saying(0, 0, 2, 10));
    due(-1, x.saying(0, 1, 0, 0));
    due(-1, x.saying(0, 1, 3, 2));
    due(-1, x.saying(0, 1, 3, -1));
    for (int kind = 2; kind < 7; kind++) due(-1, x.saying(0, kind, 0, 0));
    due(-1, x.saying(0, 7, 16, 0));
    due(-1, x.saying(0, 7, -1, 0));
    due(-1, x.saying(0, 8, 0, 0));
    due(0, x.saying(0, 0, 0, 2));
    due(-1, x.saying(0, 3, 0, 1));
    due(-1, x.saying(0, 3, 1, 0));
    due(-1, x.saying(0, 2, -1, 0));
    due(1, x.saying(0, 2, 0, MOST));
    x.table(0, 0, -1, -1);
    due(-1, x.saying(0, 8, 1, 0));
    due(2, x.saying(0, 8, 0, LEAST));
    for (int i = 3; i < 48; i++) due(i, x.saying(0, 7, 15, i));
    due(-2, x.saying(0, 0, 0, 0));
    due(-1, x.saying(0, 0, 0, 3));
    due(48, x.count(0, 1));
    due(-1, x.saying(0, 2, 48, 0));
    due(-1, x.saying(0, 4, 0, 48));
    due(-1, x.rule(0, 48));
    for (int i = 1; i < 4; i++) x.table(0, 0, -1, -1);
    due(-1, x.saying(0, 8, 4, 0));
    due(-1, x.row(0, 4, 0, 0, 0));
  }

  private static int wholesWith(ChoiceDesk x, int saying) {
    x.rule(0, saying);
    int wholes = x.wholes(0);
    x.drop(0, saying);
    return wholes;
  }

  private static void sayingKinds() {
    ChoiceDesk x = threeQuestions();
    x.question(0, 53, 3, 202, 0);
    x.table(0, 2, 0, -1);
    x.row(0, 0, 3, 2, 0);
    x.row(0, 0, 0, 0, 0);
    int is = x.saying(0, 0, 0, 2);
    int yes = x.saying(0, 0, 1, 1);
    due(32, wholesWith(x, is));
    due(48, wholesWith(x, yes));
    due(48, wholesWith(x, x.saying(0, 1, 3, 1)));
    due(64, wholesWith(x, x.saying(0, 2, is, 0)));
    due(16, wholesWith(x, x.saying(0, 3, is, yes)));
    due(64, wholesWith(x, x.saying(0, 4, is, yes)));
    due(80, wholesWith(x, x.saying(0, 5, is, yes)));
    due(64, wholesWith(x, x.saying(0, 5, yes, is)));
    due(48, wholesWith(x, x.saying(0, 6, is, yes)));
    due(24, wholesWith(x, x.saying(0, 7, 4, 10)));
    due(32, wholesWith(x, x.saying(0, 7, 1, 0)));
    due(24, wholesWith(x, x.saying(0, 7, 8, 0)));
    due(72, wholesWith(x, x.saying(0, 7, 8, 1)));
    due(12, wholesWith(x, x.saying(0, 7, 6, 10)));
    due(96, wholesWith(x, x.saying(0, 7, 15, MOST)));
    due(0, wholesWith(x, x.saying(0, 7, 15, LEAST)));
    due(96, wholesWith(x, x.saying(0, 7, 0, 0)));
    due(0, wholesWith(x, x.saying(0, 7, 0, -1)));
    due(16, wholesWith(x, x.saying(0, 8, 0, 0)));
  }

  private static void table() {
    ChoiceDesk x = threeQuestions();
    due(-1, x.table(4, 0, -1, -1));
    due(-1, x.table(0, -1, -1, -1));
    due(-1, x.table(0, 3, -1, -1));
    due(-1, x.table(0, 0, 0, -1));
    due(-1, x.table(0, 0, 3, -1));
    due(-1, x.table(0, 0, -2, -1));
    due(-1, x.table(0, 0, -1, 1));
    due(-1, x.table(0, 0, 1, 1));
    due(-1, x.table(0, 0, 1, 0));
    due(-1, x.table(0, 0, 1, 3));
    due(-1, x.table(0, 0, 1, -2));
    due(0, x.table(0, 0, -1, -1));
    due(1, x.table(0, 2, 0, -1));
    due(2, x.table(0, 2, 0, 1));
    due(3, x.table(0, 0, -1, -1));
    due(-2, x.table(0, 0, -1, -1));
    due(-1, x.table(0, 0, 0, -1));
    due(4, x.count(0, 2));
    due(-1, x.table(1, 0, -1, -1));
  }

  private static void row() {
    ChoiceDesk x = threeQuestions();
    due(-1, x.row(0, 0, 0, 0, 0));
    x.table(0, 0, -1, -1);
    x.table(0, 2, 1, 0);
    due(-1, x.row(4, 0, 0, 0, 0));
    due(-1, x.row(0, 2, 0, 0, 0));
    due(-1, x.row(0, -1, 0, 0, 0));
    due(-1, x.row(0, 0, 3, 0, 0));
    due(-1, x.row(0, 0, -1, 0, 0));
    due(-1, x.row(0, 1, 0, 2, 0));
    due(-1, x.row(0, 1, 0, 0, 3));
    due(-1, x.row(0, 1, 10, 0, 0));
    x.saying(0, 8, 0, 0);
    x.saying(0, 2, 0, 0);
    x.saying(0, 8, 1, 0);
    x.rule(0, 0);
    due(0, x.wholes(0));
    due(1, x.row(0, 0, 2, MOST, LEAST));
    due(8, x.wholes(0));
    due(2, x.row(0, 0, 2, 0, 0));
    due(8, x.wholes(0));
    x.start(0);
    due(3, x.row(0, 0, 0, 0, 0));
    due(16, x.wholes(0));
    x.drop(0, 0);
    x.rule(0, 1);
    due(8, x.wholes(0));
    for (int i = 4; i <= 20; i++) due(i, x.row(0, 0, 1, 0, 0));
    due(0, x.wholes(0));
    due(-2, x.row(0, 0, 1, 0, 0));
    due(-1, x.row(0, 0, 3, 0, 0));
    x.drop(0, 1);
    x.rule(0, 2);
    due(1, x.row(0, 1, 3, 1, 2));
    due(1, x.wholes(0));
    due(3, x.value(0, 2));
  }

  private static void rule() {
    ChoiceDesk x = threeQuestions();
    due(-1, x.rule(0, 0));
    for (int i = 0; i < 17; i++) x.saying(0, 7, 7, 50 + i);
    due(-1, x.rule(4, 0));
    due(-1, x.rule(0, -1));
    due(-1, x.rule(0, 17));
    due(-1, x.rule(1, 0));
    due(1, x.rule(0, 3));
    due(-3, x.rule(0, 3));
    for (int i = 0; i < 16; i++) due(i == 3 ? -3 : i < 3 ? i + 2 : i + 1, x.rule(0, i));
    due(-2, x.rule(0, 16));
    due(-2, x.rule(0, 3));
    due(-1, x.rule(0, 17));
    due(16, x.count(0, 3));
  }

  private static void drop() {
    ChoiceDesk x = threeQuestions();
    for (int v = 0; v < 3; v++) x.saying(0, 0, 0, v);
    for (int v = 0; v < 3; v++) x.rule(0, v);
    due(-1, x.drop(0, 3));
    due(-1, x.drop(4, 0));
    due(-1, x.drop(0, -1));
    due(2, x.drop(0, 0));
    due(-1, x.drop(0, 0));
    due(0, x.wholes(0));
    due(1, x.drop(0, 2));
    due(8, x.wholes(0));
    due(0, x.drop(0, 1));
    due(24, x.wholes(0));
    due(1, x.rule(0, 0));
  }

  private static void turn() {
    ChoiceDesk x = threeQuestions();
    x.question(0, 53, 0, 2, 0);
    due(-1, x.turn(0, 0, 4));
    due(-1, x.turn(0, 0, -1));
    due(-1, x.turn(0, 4, 0));
    due(-1, x.turn(4, 0, 0));
    due(-1, x.turn(1, 0, 0));
    due(0, x.turn(0, 0, 3));
    due(3, x.turn(0, 0, 3));
    due(0, x.turn(0, 1, 0));
    due(1, x.turn(0, 2, 1));
    due(2, x.turn(0, 3, 1));
    due(2, x.turn(0, 2, 2));
    due(3, x.turn(0, 0, 0));
    due(1, x.turn(0, 1, 1));
    due(4, x.question(0, 54, 0, 2, 0));
    due(4, x.turn(0, 4, 4));
  }

  private static void wholes() {
    ChoiceDesk x = threeQuestions();
    due(-1, x.wholes(4));
    due(-1, x.wholes(-1));
    due(24, x.wholes(0));
    due(1, x.wholes(1));
    breakAll(x, 1);
    due(0, x.wholes(1));
    x.saying(2, 7, 0, 0);
    x.rule(2, 0);
    due(1, x.wholes(2));
    x.saying(0, 7, 5, 11);
    x.rule(0, 0);
    due(6, x.wholes(0));
  }

  private static void size() {
    ChoiceDesk x = threeQuestions();
    due(-1, x.size(4, 0));
    due(-1, x.size(0, 4));
    due(-1, x.size(0, -2));
    for (int k = 0; k <= 3; k++) due(1, x.size(0, k));
    due(4, x.size(0, -1));
    x.question(1, 1, 0, 2, 0);
    x.question(1, 2, 0, 2, 0);
    x.question(1, 3, 0, 2, 0);
    x.question(1, 4, 0, 2, 0);
    x.saying(1, 0, 0, 1);
    x.saying(1, 0, 2, 1);
    x.saying(1, 6, 0, 1);
    x.saying(1, 0, 1, 1);
    x.saying(1, 0, 3, 1);
    x.saying(1, 6, 3, 4);
    x.rule(1, 2);
    x.rule(1, 5);
    int[] crossed = {1, 2, 4, 2, 1};
    for (int k = 0; k <= 4; k++) due(crossed[k], x.size(1, k));
    due(10, x.size(1, -1));
    x.turn(1, 2, 1);
    int[] straight = {1, 2, 1, 2, 1};
    for (int k = 0; k <= 4; k++) due(straight[k], x.size(1, k));
    due(7, x.size(1, -1));
    x.drop(1, 5);
    due(6, x.size(1, -1));
    breakAll(x, 1);
    for (int k = -1; k <= 4; k++) due(0, x.size(1, k));
    due(-1, x.size(1, 5));
    due(1, x.size(2, 0));
    due(-1, x.size(2, 1));
    breakAll(x, 2);
    due(0, x.size(2, -1));
  }

  /**
   * Three MANY of 3 things bar each a value of the last two questions for every thing they lack,
   * so nearly every one of the 512 ways to begin has its own ways to go on.
   */
  private static void sizeOfLargeGraph() {
    ChoiceDesk x = new ChoiceDesk();
    for (int q = 0; q < 3; q++) x.question(0, q, 3, 303, 0);
    x.question(0, 3, 0, 6, 0);
    x.question(0, 4, 0, 5, 0);
    for (int i = 0; i < 9; i++) {
      int has = x.saying(0, 1, i / 3, i % 3);
      int is = i < 6 ? x.saying(0, 0, 3, i) : x.saying(0, 0, 4, i - 6);
      x.rule(0, x.saying(0, 5, is, has));
    }
    due(5376, x.wholes(0));
    int[] places = {1, 8, 63, 504, 8, 1};
    for (int k = 0; k <= 5; k++) due(places[k], x.size(0, k));
    due(585, x.size(0, -1));
  }

  private static void dead() {
    ChoiceDesk x = threeQuestions();
    x.question(0, 53, 3, 213, 0);
    due(-1, x.dead(4, 0, 0));
    due(-1, x.dead(0, 4, 0));
    due(-1, x.dead(0, 0, 3));
    due(-1, x.dead(0, 2, 10));
    due(-1, x.dead(0, 3, 0));
    due(-1, x.dead(0, 3, 7));
    due(0, x.dead(0, 3, 6));
    x.saying(0, 7, 12, 12);
    x.rule(0, 0);
    due(0, x.dead(0, 2, 1));
    due(1, x.dead(0, 2, 2));
    due(0, x.dead(0, 3, 4));
    x.saying(0, 7, 8, 1);
    x.rule(0, 1);
    due(1, x.dead(0, 3, 5));
  }

  private static void needless() {
    ChoiceDesk x = threeQuestions();
    x.saying(0, 7, 7, 12);
    x.saying(0, 7, 7, 13);
    x.saying(0, 7, 7, 99);
    due(-1, x.needless(0, 0));
    due(-1, x.needless(0, 3));
    due(-1, x.needless(4, 0));
    x.rule(0, 0);
    due(0, x.needless(0, 0));
    x.rule(0, 1);
    x.rule(0, 2);
    due(0, x.needless(0, 0));
    due(1, x.needless(0, 1));
    due(1, x.needless(0, 2));
    x.drop(0, 0);
    due(0, x.needless(0, 1));
    due(-1, x.needless(0, 0));
    breakAll(x, 0);
    due(1, x.needless(0, 1));
    due(0, x.needless(0, 3));
  }

  private static void same() {
    ChoiceDesk x = new ChoiceDesk();
    due(-1, x.same(4, 0));
    due(-1, x.same(0, -1));
    due(1, x.same(0, 1));
    x.question(0, 5, 0, 2, 0);
    x.question(0, 6, 2, 3, 7);
    due(0, x.same(0, 1));
    x.question(1, 6, 0, 3, 0);
    due(0, x.same(0, 1));
    due(0, x.same(1, 0));
    x.question(1, 5, 1, 2, 0);
    due(1, x.same(0, 1));
    due(1, x.same(1, 0));
    x.saying(0, 0, 1, 2);
    x.saying(0, 2, 0, 0);
    x.rule(0, 1);
    due(0, x.same(0, 1));
    x.saying(1, 0, 0, 1);
    x.saying(1, 2, 0, 0);
    x.rule(1, 1);
    due(0, x.same(0, 1));
    x.drop(1, 1);
    x.saying(1, 0, 0, 2);
    x.saying(1, 2, 2, 0);
    x.rule(1, 3);
    due(1, x.same(0, 1));
    x.question(2, 5, 0, 2, 0);
    x.question(2, 6, 0, 2, 0);
    due(1, x.same(0, 2));
    due(1, x.same(2, 1));
    x.question(3, 5, 0, 2, 0);
    x.question(3, 9, 0, 2, 0);
    due(0, x.same(2, 3));
    breakAll(x, 2);
    breakAll(x, 3);
    due(0, x.same(2, 3));
    due(0, x.same(2, 0));
    breakAll(x, 0);
    due(1, x.same(2, 0));
  }

  /** Values of one name may stand at other places, or be there in one book alone. */
  private static void sameValues() {
    ChoiceDesk x = new ChoiceDesk();
    x.question(0, 1, 3, 112, 0);
    x.question(0, 2, 0, 2, 0);
    x.question(1, 2, 0, 2, 0);
    x.question(1, 1, 0, 3, 0);
    due(0, x.same(0, 1));
    due(0, x.same(1, 0));
    x.saying(1, 0, 1, 0);
    x.saying(1, 2, 0, 0);
    x.rule(1, 1);
    due(1, x.same(0, 1));
    due(1, x.same(1, 0));
    x.drop(1, 1);
    x.saying(1, 0, 1, 2);
    x.saying(1, 2, 2, 0);
    x.rule(1, 3);
    due(0, x.same(0, 1));
    due(0, x.same(1, 0));
    ChoiceDesk y = new ChoiceDesk();
    for (int b = 0; b < 2; b++) {
      y.question(b, 7, 0, 2, 0);
      y.saying(b, 0, 0, b);
      y.rule(b, 0);
    }
    due(0, y.same(0, 1));
    due(0, y.same(1, 0));
    due(1, y.same(2, 3));
  }

  private static void start() {
    ChoiceDesk x = threeQuestions();
    due(-1, x.start(4));
    due(-1, x.start(-1));
    for (int i = 0; i < 12; i++) due(i, x.start(i % 4));
    due(-2, x.start(0));
    due(-1, x.start(4));
    due(2, x.state(6, 3));
    due(0, x.state(0, 0));
    due(24, x.state(0, 2));
    due(0, x.nearest(0));
  }

  /** An order of threeQuestions in which ONE 2 asks for YES 1, and numbers above 11 are out. */
  private static ChoiceDesk tiedOrder() {
    ChoiceDesk x = threeQuestions();
    x.saying(0, 0, 0, 2);
    x.saying(0, 0, 1, 1);
    x.saying(0, 5, 0, 1);
    x.saying(0, 7, 4, 11);
    x.rule(0, 2);
    x.rule(0, 3);
    x.start(0);
    return x;
  }

  private static void choose() {
    ChoiceDesk x = tiedOrder();
    due(-1, x.choose(1, 0, 0));
    due(-1, x.choose(-1, 0, 0));
    due(-1, x.choose(0, 3, 0));
    due(-1, x.choose(0, 0, 3));
    due(-3, x.choose(0, 2, 2));
    due(1, x.choose(0, 1, 0));
    due(-3, x.choose(0, 0, 2));
    due(2, x.choose(0, 0, 1));
    due(1, x.choice(0, 0));
    due(2, x.choose(0, 1, 1));
    due(0, x.choice(0, 0));
    due(1, x.choice(0, 1));
    due(2, x.choose(0, 0, 2));
    due(-3, x.choose(0, 1, 0));
    due(2, x.choose(0, 1, 1));
    due(3, x.choose(0, 2, 1));
    due(0, x.choice(0, 0));
    due(1, x.state(0, 2));
  }

  private static void back() {
    ChoiceDesk x = tiedOrder();
    due(-1, x.back(1, 0));
    due(-1, x.back(0, 3));
    due(-2, x.back(0, 0));
    x.choose(0, 0, 2);
    x.choose(0, 1, 1);
    x.choose(0, 2, 0);
    due(1, x.back(0, 1));
    due(-2, x.back(0, 1));
    due(0, x.choice(0, 0));
    due(2, x.choice(0, 1));
    due(-1, x.choice(0, 2));
    due(2, x.back(0, 0));
    due(0, x.back(0, 2));
    due(10, x.state(0, 2));
  }

  private static void may() {
    ChoiceDesk x = tiedOrder();
    due(-1, x.may(1, 0, 0));
    due(-1, x.may(0, 3, 0));
    due(-1, x.may(0, 1, 2));
    due(1, x.may(0, 2, 1));
    due(0, x.may(0, 2, 2));
    x.choose(0, 0, 2);
    due(0, x.may(0, 1, 0));
    due(1, x.may(0, 1, 1));
    due(1, x.may(0, 0, 0));
    due(1, x.may(0, 0, 2));
    x.choose(0, 1, 1);
    due(0, x.may(0, 1, 0));
    x.choose(0, 0, 0);
    due(1, x.may(0, 1, 0));
  }

  private static void value() {
    ChoiceDesk x = tiedOrder();
    due(-1, x.value(1, 0));
    due(-1, x.value(0, 3));
    due(-1, x.value(0, -1));
    due(-2, x.value(0, 1));
    x.choose(0, 0, 2);
    due(2, x.value(0, 0));
    due(1, x.value(0, 1));
    due(-2, x.value(0, 2));
    breakAll(x, 0);
    due(2, x.value(0, 0));
    due(-2, x.value(0, 1));
  }

  private static void state() {
    ChoiceDesk x = tiedOrder();
    due(-1, x.state(1, 0));
    due(-1, x.state(0, 4));
    due(-1, x.state(0, -1));
    due(0, x.state(0, 0));
    due(0, x.state(0, 1));
    due(10, x.state(0, 2));
    due(0, x.state(0, 3));
    x.choose(0, 0, 2);
    due(1, x.state(0, 0));
    due(2, x.state(0, 1));
    due(2, x.state(0, 2));
    x.choose(0, 2, 0);
    due(5, x.state(0, 0));
    x.choose(0, 1, 1);
    due(0, x.state(0, 1));
    breakAll(x, 0);
    due(7, x.state(0, 0));
    due(0, x.state(0, 1));
    due(0, x.state(0, 2));
    x.back(0, 1);
    due(0, x.state(0, 1));
    x.start(3);
    due(3, x.state(1, 3));
    due(1, x.state(1, 2));
    due(0, x.state(1, 1));
  }

  private static void choice() {
    ChoiceDesk x = tiedOrder();
    due(-1, x.choice(0, 0));
    x.choose(0, 2, 1);
    x.choose(0, 0, 1);
    due(2, x.choice(0, 0));
    due(0, x.choice(0, 1));
    due(-1, x.choice(0, 2));
    due(-1, x.choice(0, -1));
    due(-1, x.choice(1, 0));
    x.choose(0, 2, 1);
    due(0, x.choice(0, 0));
    due(2, x.choice(0, 1));
  }

  private static void why() {
    ChoiceDesk x = tiedOrder();
    due(-1, x.why(1, 0, 0));
    due(-1, x.why(0, 3, 0));
    due(-1, x.why(0, 1, 2));
    due(-2, x.why(0, 0, 2));
    due(0, x.why(0, 2, 2));
    x.choose(0, 2, 0);
    x.choose(0, 1, 0);
    due(2, x.why(0, 0, 2));
    due(0, x.why(0, 2, 3));
    ChoiceDesk y = new ChoiceDesk();
    for (int i = 0; i < 5; i++) y.question(0, i, 1, 2, 0);
    y.saying(0, 7, 0b10111, 2);
    y.rule(0, 0);
    y.start(0);
    for (int i = 0; i < 2; i++) y.choose(0, i, 1);
    y.choose(0, 3, 1);
    due(3, y.why(0, 2, 1));
    y.back(0, 0);
    y.choose(0, 4, 1);
    due(0b10010, y.why(0, 2, 1));
    y.choose(0, 2, 0);
    due(0b10010, y.why(0, 2, 1));
    for (int i = 0; i < 5; i++) y.saying(0, 0, i, 1);
    y.saying(0, 3, 4, 2);
    y.saying(0, 2, 6, 0);
    y.rule(0, 7);
    due(2, y.why(0, 3, 1));
    due(-2, y.why(0, 3, 0));
  }

  /** Of two least reasons the one of the lower questions counts, whichever was chosen first. */
  private static void whyTies() {
    ChoiceDesk x = new ChoiceDesk();
    for (int i = 0; i < 4; i++) x.question(0, i, 1, 2, 0);
    x.saying(0, 0, 3, 1);
    x.saying(0, 2, 0, 0);
    for (int i = 0; i < 3; i++) {
      x.saying(0, 0, i, 1);
      x.saying(0, 5, 2 + 2 * i, 1);
    }
    x.rule(0, 5);
    x.rule(0, 7);
    x.start(0);
    x.choose(0, 2, 1);
    x.choose(0, 1, 1);
    x.choose(0, 0, 1);
    due(2, x.why(0, 3, 1));
    x.rule(0, 3);
    due(1, x.why(0, 3, 1));
  }

  /** One choice is a lesser reason than two, though its number is greater. */
  private static void whyFewest() {
    ChoiceDesk x = new ChoiceDesk();
    for (int i = 0; i < 8; i++) x.question(0, i, 1, 2, 0);
    for (int i = 0; i < 8; i++) x.saying(0, 0, i, 1);
    x.saying(0, 3, 0, 1);
    x.saying(0, 3, 8, 2);
    x.saying(0, 3, 3, 4);
    x.saying(0, 2, 7, 0);
    x.saying(0, 5, 9, 11);
    x.saying(0, 5, 10, 11);
    x.saying(0, 5, 6, 11);
    x.start(0);
    for (int i = 0; i < 7; i++) x.choose(0, 6 - i, 1);
    x.rule(0, 12);
    due(0b111, x.why(0, 7, 1));
    x.rule(0, 13);
    due(0b11000, x.why(0, 7, 1));
    x.rule(0, 14);
    due(0b1000000, x.why(0, 7, 1));
    x.drop(0, 13);
    x.drop(0, 14);
    due(-2, x.why(0, 7, 0));
    x.back(0, 1);
    due(-2, x.why(0, 7, 1));
    x.choose(0, 7, 1);
    due(0b10000101, x.why(0, 1, 1));
  }

  private static void standard() {
    ChoiceDesk x = threeQuestions();
    x.question(0, 53, 3, 213, 0);
    due(-1, x.standard(4, 0, 0));
    due(-1, x.standard(0, 4, 0));
    due(-1, x.standard(0, 0, 3));
    due(-1, x.standard(0, 3, 7));
    due(0, x.standard(0, 0, 2));
    due(2, x.standard(0, 0, 1));
    due(1, x.standard(0, 3, 6));
    due(6, x.standard(0, 3, 4));
    due(0, x.standard(0, 2, 0));
  }

  private static void fill() {
    ChoiceDesk x = tiedOrder();
    due(-1, x.fill(1));
    x.standard(0, 0, 2);
    x.standard(0, 2, 3);
    due(3, x.fill(0));
    due(2, x.value(0, 0));
    due(1, x.value(0, 1));
    due(0, x.value(0, 2));
    due(7, x.state(0, 0));
    due(0, x.fill(0));
    x.turn(0, 1, 0);
    x.start(0);
    x.choose(1, 2, 1);
    due(2, x.fill(1));
    due(2, x.choice(1, 0));
    due(1, x.choice(1, 1));
    due(0, x.choice(1, 2));
    due(0, x.value(1, 1));
    due(0, x.value(1, 0));
    x.start(1);
    due(0, x.fill(2));
    x.start(0);
    breakAll(x, 0);
    due(-4, x.fill(3));
    due(0, x.state(3, 0));
    due(-4, x.fill(0));
  }

  private static void wish() {
    ChoiceDesk x = tiedOrder();
    due(-1, x.wish(1, 0, 0, 1));
    due(-1, x.wish(0, 3, 0, 1));
    due(-1, x.wish(0, 0, 3, 1));
    due(-1, x.wish(0, 0, 3, 0));
    due(-1, x.wish(0, 0, 0, 1001));
    due(-1, x.wish(0, 0, 0, -1));
    due(0, x.nearest(0));
    due(0, x.wish(0, 0, 0, 0));
    due(1, x.wish(0, 2, 3, 1000));
    due(1000, x.nearest(0));
    due(1, x.wish(0, 2, 2, 1));
    due(1, x.nearest(0));
    due(2, x.wish(0, 0, 2, 5));
    due(1, x.wish(0, 2, 0, 0));
    due(0, x.nearest(0));
    due(1, x.wish(0, 1, 0, 0));
    due(0, x.wish(0, 0, 1, 0));
  }

  private static void nearest() {
    ChoiceDesk x = tiedOrder();
    due(-1, x.nearest(1));
    due(-1, x.nearest(-1));
    x.wish(0, 0, 2, 5);
    x.wish(0, 1, 0, 7);
    x.wish(0, 2, 3, 100);
    due(105, x.nearest(0));
    x.choose(0, 0, 2);
    due(107, x.nearest(0));
    breakAll(x, 0);
    due(-4, x.nearest(0));
  }

  private static void near() {
    ChoiceDesk x = tiedOrder();
    due(-1, x.near(1, 0));
    due(-1, x.near(0, 3));
    due(-1, x.near(0, -1));
    due(0, x.near(0, 0));
    x.wish(0, 0, 2, 5);
    x.wish(0, 1, 0, 5);
    due(0, x.near(0, 0));
    due(0, x.near(0, 1));
    x.wish(0, 0, 2, 6);
    due(2, x.near(0, 0));
    due(1, x.near(0, 1));
    due(0, x.near(0, 2));
    x.turn(0, 2, 0);
    due(2, x.near(0, 0));
    breakAll(x, 0);
    due(-4, x.near(0, 0));
    due(-1, x.near(0, 3));
    ChoiceDesk y = new ChoiceDesk();
    y.question(0, 1, 3, 213, 0);
    y.question(0, 2, 1, 2, 0);
    y.start(0);
    y.wish(0, 0, 5, 3);
    due(5, y.near(0, 0));
    y.wish(0, 0, 5, 0);
    due(1, y.near(0, 0));
  }

  private static void fewest() {
    ChoiceDesk x = new ChoiceDesk();
    for (int i = 0; i < 3; i++) x.question(0, i, 1, 2, 0);
    x.saying(0, 7, 3, 1);
    x.saying(0, 7, 5, 1);
    x.rule(0, 0);
    x.rule(0, 1);
    x.start(0);
    due(-1, x.fewest(1));
    due(0, x.fewest(0));
    x.wish(0, 0, 1, 1000);
    x.wish(0, 1, 1, 1);
    x.wish(0, 2, 1, 1);
    due(2, x.nearest(0));
    due(1, x.fewest(0));
    x.choose(0, 0, 1);
    due(2, x.fewest(0));
    breakAll(x, 0);
    due(-4, x.fewest(0));
  }

  private static void price() {
    ChoiceDesk x = threeQuestions();
    due(-1, x.price(4, 0, 0, 1));
    due(-1, x.price(0, 3, 0, 1));
    due(-1, x.price(0, 0, 3, 1));
    due(-1, x.price(0, 0, 0, 1000001));
    due(-1, x.price(0, 0, 0, -1000001));
    due(0, x.price(0, 0, 0, 0));
    due(1, x.price(0, 0, 0, 1000000));
    due(0, x.price(0, 0, 0, 1000000));
    due(1, x.price(0, 0, 0, -1000000));
    x.start(0);
    due(-1000000, x.limit(0, false));
    due(1, x.price(0, 0, 0, 0));
    due(0, x.limit(0, false));
    due(1, x.price(0, 2, 3, 5));
    due(5, x.limit(0, true));
  }

  private static void pair() {
    ChoiceDesk x = threeQuestions();
    due(-1, x.pair(4, 1, 0, 1));
    due(-1, x.pair(0, 0, 0, 1));
    due(-1, x.pair(0, 18, 0, 1));
    due(-1, x.pair(0, 3, 0, 1));
    due(-1, x.pair(0, 24, 0, 1));
    due(-1, x.pair(0, -1, 0, 1));
    due(-1, x.pair(0, MOST, 0, 1));
    due(-1, x.pair(0, 1, 2, 1));
    due(-1, x.pair(0, 1, 30, 1));
    due(-1, x.pair(0, 1, -1, 1));
    due(-1, x.pair(0, 1, LEAST, 1));
    due(-1, x.pair(0, 1, 0, 1000001));
    due(-1, x.pair(0, 1, 0, -1000001));
    due(1, x.pair(0, 1, 21, 1000000));
    due(2, x.pair(0, 2 * 8 + 1, 31, 7));
    due(3, x.pair(0, 2 * 8 + 1, 31, 7));
    x.start(0);
    due(1000014, x.limit(0, true));
    x.choose(0, 0, 1);
    due(14, x.limit(0, true));
    due(0, x.limit(0, false));
    for (int i = 4; i <= 20; i++) due(i, x.pair(0, 1, 0, 0));
    due(-2, x.pair(0, 1, 0, 0));
    due(-1, x.pair(0, 1, 2, 0));
    due(20, x.count(0, 4));
  }

  private static void step() {
    ChoiceDesk x = threeQuestions();
    due(-1, x.step(4, 0, 0, 0));
    due(-1, x.step(0, 8, 0, 0));
    due(-1, x.step(0, -1, 0, 0));
    due(-1, x.step(0, 7, 0, 1000001));
    due(-1, x.step(0, 7, 0, -1000001));
    due(1, x.step(0, 5, 15, 100));
    due(2, x.step(0, 2, 1, 1000));
    due(3, x.step(0, 0, 0, 3));
    due(4, x.step(0, 0, 1, 1000000));
    due(5, x.step(0, 7, MOST, 1000000));
    due(6, x.step(0, 7, LEAST, 20000));
    x.start(0);
    due(21103, x.limit(0, true));
    due(20003, x.limit(0, false));
    x.choose(0, 2, 3);
    x.choose(0, 1, 0);
    x.choose(0, 0, 2);
    due(20103, x.cost(0));
    x.choose(0, 0, 1);
    due(20003, x.cost(0));
    for (int i = 7; i <= 10; i++) due(i, x.step(0, 1, 0, 0));
    due(-2, x.step(0, 1, 0, 0));
    due(-1, x.step(0, 8, 0, 0));
    due(10, x.count(0, 5));
  }

  /** Prices may stand before the questions do. */
  private static void pricesBeforeQuestions() {
    ChoiceDesk x = new ChoiceDesk();
    x.step(0, 0, 0, 5);
    x.question(0, 1, 3, 213, 0);
    x.question(0, 2, 1, 2, 0);
    x.price(0, 0, 6, 40);
    x.pair(0, 1, 61, 300);
    x.question(0, 3, 0, 6, 0);
    x.price(0, 2, 5, 2000);
    x.step(0, 3, 3, 10000);
    x.start(0);
    due(12345, x.limit(0, true));
    due(5, x.limit(0, false));
  }

  private static void cost() {
    ChoiceDesk x = tiedOrder();
    due(ARGUMENT, thrown(() -> x.cost(1)));
    due(ARGUMENT, thrown(() -> x.cost(-1)));
    due(STATE, thrown(() -> x.cost(0)));
    x.price(0, 0, 2, 100);
    x.price(0, 1, 1, 20);
    x.price(0, 2, 1, -3);
    x.choose(0, 0, 2);
    due(STATE, thrown(() -> x.cost(0)));
    x.choose(0, 2, 1);
    due(117, x.cost(0));
    breakAll(x, 0);
    due(STATE, thrown(() -> x.cost(0)));
    x.start(1);
    due(0, x.cost(1));
  }

  private static void limit() {
    ChoiceDesk x = tiedOrder();
    due(ARGUMENT, thrown(() -> x.limit(1, true)));
    due(ARGUMENT, thrown(() -> x.limit(-1, false)));
    x.price(0, 0, 2, 100);
    x.price(0, 1, 0, 50);
    x.price(0, 2, 3, 1000);
    x.price(0, 2, 0, -7);
    due(100, x.limit(0, true));
    due(-7, x.limit(0, false));
    x.choose(0, 0, 1);
    due(50, x.limit(0, true));
    breakAll(x, 0);
    due(STATE, thrown(() -> x.limit(0, true)));
    due(STATE, thrown(() -> x.limit(0, false)));
  }

  private static void carry() {
    ChoiceDesk x = tiedOrder();
    x.question(1, 52, 0, 2, 0);
    x.question(1, 51, 1, 2, 0);
    x.question(1, 50, 2, 3, 5);
    x.saying(1, 7, 6, 5);
    x.rule(1, 0);
    due(-1, x.carry(1, 1));
    due(-1, x.carry(0, 4));
    due(-1, x.carry(0, -1));
    x.choose(0, 0, 0);
    x.choose(0, 2, 1);
    x.choose(0, 1, 1);
    due(1, x.carry(0, 1));
    due(2, x.lost(1));
    due(2, x.choice(1, 0));
    due(0, x.choice(1, 1));
    due(1, x.value(1, 0));
    due(1, x.state(1, 3));
    x.wish(0, 0, 2, 9);
    due(2, x.carry(0, 0));
    due(0, x.lost(2));
    due(0, x.nearest(2));
    due(2, x.choice(2, 1));
    due(3, x.carry(0, 3));
    due(7, x.lost(3));
    for (int i = 4; i < 12; i++) due(i, x.carry(0, 1));
    due(-2, x.carry(0, 1));
    due(-1, x.carry(12, 1));
  }

  private static void lost() {
    ChoiceDesk x = threeQuestions();
    x.question(1, 52, 0, 2, 0);
    x.start(0);
    due(0, x.lost(0));
    due(-1, x.lost(1));
    due(-1, x.lost(-1));
    x.choose(0, 2, 3);
    x.choose(0, 1, 1);
    x.carry(0, 1);
    due(6, x.lost(1));
    x.carry(1, 0);
    due(0, x.lost(2));
    x.choose(0, 2, 1);
    due(6, x.lost(1));
    x.saying(1, 0, 0, 0);
    x.rule(1, 0);
    x.carry(0, 1);
    due(6, x.lost(3));
    x.drop(1, 0);
    x.carry(0, 1);
    due(2, x.lost(4));
  }

  private static void count() {
    ChoiceDesk x = tiedOrder();
    x.table(0, 0, -1, -1);
    x.drop(0, 2);
    x.pair(0, 1, 0, 0);
    x.pair(0, 1, 0, 0);
    x.step(0, 1, 0, 0);
    int[] all = {3, 4, 1, 1, 2, 1, 1};
    for (int what = 0; what < 7; what++) due(all[what], x.count(0, what));
    for (int what = 0; what < 6; what++) {
      due(0, x.count(1, what));
      due(-1, x.count(4, what));
      due(-1, x.count(-1, what));
    }
    due(1, x.count(-5, 6));
    due(1, x.count(MOST, 6));
    due(-1, x.count(0, 7));
    due(-1, x.count(0, -1));
  }

  private static void keep() {
    ChoiceDesk x = tiedOrder();
    x.question(1, 1, 3, 213, 0);
    due(-1, x.keep(8, 0, 0, 0));
    due(-1, x.keep(-1, 0, 0, 0));
    due(-1, x.keep(0, 2, 0, 0));
    due(-1, x.keep(0, 5, 0, 0));
    due(-1, x.keep(0, -1, 0, 0));
    due(-1, x.keep(0, 1, 4, 0));
    due(-1, x.keep(0, 1, 0, 3));
    due(-1, x.keep(0, 3, 0, 1));
    due(-1, x.keep(0, 4, 0, 3));
    due(-1, x.keep(0, 4, -1, 0));
    due(-11, x.toss(0));
    due(0, x.keep(0, 1, 0, 1));
    due(24, x.weight(0));
    due(0, x.keep(0, 3, MOST, 0));
    due(-12, x.toss(0));
    x.wish(0, 0, 2, 1);
    due(0, x.element(0, 0));
    due(0, x.keep(0, 3, -1, 0));
    due(2, x.element(0, 0));
    due(1, x.element(0, 1));
    due(0, x.element(0, 2));
    due(STATE, thrown(() -> x.element(0, 3)));
    x.price(1, 0, 6, 66);
    x.price(1, 0, 3, 33);
    due(0, x.keep(7, 4, 1, 0));
    x.price(1, 0, 3, 34);
    long[] prices = {0, 0, 33, 0, 0, 66};
    for (int i = 0; i < 6; i++) due(prices[i], x.element(7, i));
    due(STATE, thrown(() -> x.element(7, 6)));
    breakAll(x, 0);
    due(-4, x.keep(7, 3, 0, 0));
    due(33, x.element(7, 2));
    due(0, x.keep(7, 0, -9, 99));
    due(-11, x.toss(7));
    due(1, x.start(2));
    due(0, x.keep(7, 3, 0, 1));
    due(0, x.copy(7, 0, 7, 0, 0));
  }

  private static void make() {
    ChoiceDesk x = threeQuestions();
    due(-1, x.make(8, 3, 1));
    due(-1, x.make(-1, 3, -1));
    due(-1, x.make(0, 0, 1));
    due(-1, x.make(0, 1, -1));
    due(-1, x.make(0, 3, 61));
    due(-1, x.make(0, 4, MOST));
    due(-14, x.make(0, 3, -1));
    due(-14, x.make(0, 4, LEAST));
    due(-11, x.toss(0));
    due(0, x.make(0, 3, 60));
    due(0, x.element(0, 59));
    due(0, x.make(1, 4, 0));
    due(STATE, thrown(() -> x.element(1, 0)));
    due(-14, x.make(0, 4, -1));
    due(0, x.element(0, 59));
    due(0, x.make(0, 4, 2));
    due(STATE, thrown(() -> x.element(0, 2)));
    due(2, x.copy(0, 0, 0, 0, 2));
  }

  private static void element() {
    ChoiceDesk x = threeQuestions();
    due(ARGUMENT, thrown(() -> x.element(8, 0)));
    due(ARGUMENT, thrown(() -> x.element(-1, 0)));
    due(STATE, thrown(() -> x.element(0, 0)));
    x.keep(0, 1, 0, 0);
    due(STATE, thrown(() -> x.element(0, 0)));
    x.price(0, 2, 3, -1000000);
    x.keep(0, 4, 0, 2);
    due(-1000000, x.element(0, 3));
    due(0, x.element(0, 0));
    due(STATE, thrown(() -> x.element(0, 4)));
    due(STATE, thrown(() -> x.element(0, -1)));
    due(STATE, thrown(() -> x.element(0, LEAST)));
  }

  private static void copy() {
    ChoiceDesk x = new ChoiceDesk();
    x.question(0, 1, 2, 6, 0);
    for (int v = 0; v < 6; v++) x.price(0, 0, v, v + 1);
    x.keep(0, 4, 0, 0);
    due(-1, x.copy(8, 0, 0, 0, 1));
    due(-1, x.copy(0, 0, -1, 0, 1));
    due(-11, x.copy(0, 0, 1, 0, 1));
    due(-11, x.copy(1, 0, 0, 0, -1));
    x.keep(2, 1, 0, 0);
    due(-11, x.copy(2, 0, 1, 0, 1));
    due(-12, x.copy(2, 0, 0, 0, 1));
    due(-12, x.copy(0, 0, 2, 0, -1));
    due(-12, x.copy(2, 0, 2, 0, 0));
    x.make(3, 3, 6);
    due(-12, x.copy(0, 0, 3, 0, 1));
    due(-12, x.copy(3, 0, 0, 9, 1));
    x.make(4, 4, 4);
    due(-13, x.copy(0, 0, 4, 0, 5));
    due(-13, x.copy(4, 0, 0, 0, 5));
    due(-13, x.copy(0, -1, 4, 0, 1));
    due(-13, x.copy(0, 0, 4, -1, 1));
    due(-13, x.copy(0, 0, 4, 0, -1));
    due(-13, x.copy(0, 7, 4, 0, 0));
    due(-13, x.copy(0, 0, 4, 5, 0));
    due(-13, x.copy(0, 1, 4, 0, MOST));
    due(-13, x.copy(0, MOST, 4, MOST, MOST));
    due(0, x.copy(0, 6, 4, 4, 0));
    due(3, x.copy(0, 3, 4, 1, 3));
    long[] four = {0, 4, 5, 6};
    for (int i = 0; i < 4; i++) due(four[i], x.element(4, i));
    due(4, x.copy(0, 0, 0, 1, 4));
    long[] right = {1, 1, 2, 3, 4, 6};
    for (int i = 0; i < 6; i++) due(right[i], x.element(0, i));
    due(4, x.copy(0, 2, 0, 0, 4));
    long[] left = {2, 3, 4, 6, 4, 6};
    for (int i = 0; i < 6; i++) due(left[i], x.element(0, i));
    x.start(0);
    x.wish(0, 0, 5, 1);
    x.keep(5, 3, 0, 0);
    due(1, x.copy(5, 0, 3, 5, 1));
    due(5, x.element(3, 5));
  }

  private static void weight() {
    ChoiceDesk x = threeQuestions();
    x.question(0, 53, 3, 213, 0);
    x.question(0, 54, 2, 6, -100);
    due(ARGUMENT, thrown(() -> x.weight(8)));
    due(ARGUMENT, thrown(() -> x.weight(-1)));
    due(STATE, thrown(() -> x.weight(0)));
    int[] weights = {13, 24, 24, 116, -84};
    for (int q = 0; q < 5; q++) {
      x.keep(q, 1, 0, q);
      due(weights[q], x.weight(q));
    }
    x.make(0, 3, 1);
    due(STATE, thrown(() -> x.weight(0)));
    x.make(0, 4, 1);
    due(STATE, thrown(() -> x.weight(0)));
  }

  private static void toss() {
    ChoiceDesk x = threeQuestions();
    x.question(0, 53, 3, 213, 0);
    due(-1, x.toss(8));
    due(-1, x.toss(-1));
    due(-11, x.toss(0));
    int[] failures = {-15, 1, 2, 3};
    for (int q = 0; q < 4; q++) {
      x.keep(q, 1, 0, q);
      due(failures[q], x.toss(q));
      due(failures[q], x.toss(q));
    }
    x.make(0, 3, 1);
    due(-12, x.toss(0));
    x.make(0, 4, 1);
    due(-12, x.toss(0));
    x.keep(0, 0, 0, 0);
    due(-11, x.toss(0));
  }

  /** The number is that of the question in its book, whatever its kind, name, shelf or turn. */
  private static void tossNumbers() {
    ChoiceDesk x = new ChoiceDesk();
    int[] kinds = {3, 2, 1, 0, 1, 3, 2, 0};
    int[] hows = {101, 1, 2, 1, 2, 102, 2, 2};
    for (int q = 0; q < 8; q++) {
      due(-1, x.question(1, 70 - q, kinds[q], 9, 0));
      due(q, x.question(1, 70 - q, kinds[q], hows[q], 5));
      x.keep(7 - q, 1, 1, q);
    }
    for (int q = 0; q < 8; q++) due(kinds[q] == 0 ? -15 : q, x.toss(7 - q));
    x.turn(1, 6, 0);
    x.turn(1, 0, 7);
    x.question(2, 64, 2, 2, 5);
    x.keep(0, 1, 2, 0);
    x.keep(7, 1, 1, 6);
    due(0, x.toss(0));
    due(6, x.toss(1));
    due(6, x.toss(7));
    due(-1, x.keep(7, 1, 2, 1));
    due(6, x.toss(7));
    x.keep(7, 1, 1, 0);
    due(0, x.toss(7));
  }

  private static void firstHalf() {
    promise = 1; newObject();
    promise = 2; question(); questionLimits(); fullBook();
    promise = 3; sayingRefusals(); sayingKinds();
    promise = 4; table();
    promise = 5; row();
    promise = 6; rule();
    promise = 7; drop();
    promise = 8; turn();
    promise = 9; wholes();
    promise = 10; size(); sizeOfLargeGraph();
    promise = 11; dead();
    promise = 12; needless();
    promise = 13; same(); sameValues();
    promise = 14; start();
    promise = 15; choose();
    promise = 16; back();
    promise = 17; may();
    promise = 18; value();
    promise = 19; state();
    promise = 20; choice();
    promise = 21; why(); whyTies(); whyFewest();
  }

  private static void secondHalf() {
    promise = 22; standard();
    promise = 23; fill();
    promise = 24; wish();
    promise = 25; nearest();
    promise = 26; near();
    promise = 27; fewest();
    promise = 28; price();
    promise = 29; pair();
    promise = 30; step();
    promise = 31; cost();
    promise = 32; limit(); pricesBeforeQuestions();
    promise = 33; carry();
    promise = 34; lost();
    promise = 35; count();
    promise = 36; keep();
    promise = 37; make();
    promise = 38; element();
    promise = 39; copy();
    promise = 40; weight();
    promise = 41; toss(); tossNumbers();
  }

  public static void main(String[] args) {
    firstHalf();
    secondHalf();
    System.out.println(asked + " calls asked, " + wrong + " answered wrong");
    if (wrong != 0) System.exit(1);
  }
}

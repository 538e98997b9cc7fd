import java.util.ArrayList;
import java.util.List;

/** The sentences of promises 1 to 13, one by one. */
final class BookSentences extends Sentences {
  private BookSentences() {
  }

  static void all() {
    lifeOfAnObject();
    newObject();
    question();
    questionRefusals();
    saying();
    table();
    row();
    rule();
    drop();
    turn();
    wholes();
    size();
    dead();
    needless();
    same();
  }

  /** Fills a book of eight YES with all that it can hold: 106 calls. */
  private static void fillBook(ChoiceDesk x, int b) {
    for (int q = 0; q < 8; q++) due(q, x.question(b, q, 1, 2, 0));
    for (int t = 0; t < 4; t++) due(t, x.table(b, t, -1, -1));
    for (int s = 0; s < 48; s++) due(s, x.saying(b, 7, 255, s % 8));
    for (int r = 0; r < 16; r++) due(r + 1, x.rule(b, 8 * (r / 4) + 4 + r % 4));
    for (int i = 0; i < 20; i++) due(i + 1, x.pair(b, 1, 11, 10));
    for (int i = 0; i < 10; i++) due(i + 1, x.step(b, 255, 4, 1000));
  }

  private static void lifeOfAnObject() {
    section("What it is");
    told("An object is used for at most 512 calls after it has been made;", () -> {
      ChoiceDesk x = new ChoiceDesk();
      for (int b = 0; b < 4; b++) fillBook(x, b);
      for (int o = 0; o < 12; o++) due(o, x.start(o % 4));
      for (int i = 0; i < 60; i++) due(i / 3 + 1, x.row(3, i % 3, 1, 0, 0));
      for (int d = 0; d < 8; d++) due(0, x.make(d, 3, 60));
      for (int b = 0; b < 4; b++) due(1 + 8 + 28 + 56 + 70, x.wholes(b));
      due(1 + 2 + 3 + 4 + 5 + 4 + 3 + 2 + 1, x.size(3, -1));
      due(1, x.same(0, 3));
      due(10200, x.limit(11, true));
      due(0, x.limit(11, false));
    });
    told("what later calls answer is free.", () -> {
      ChoiceDesk x = Desks.busy();
      for (int i = 0; i < 1000; i++) x.choose(0, i % 4, i % 7);
      asAlways(x);
    });
  }

  /** Whatever it answers, nothing but what the document names is thrown. */
  private static void asAlways(ChoiceDesk x) {
    due(0, Looks.at(x).contains(String.valueOf(OTHER)) ? 1 : 0);
  }

  private static void newObject() {
    section("Promise 1");
    told("All BOOKS are empty;", () -> {
      ChoiceDesk x = new ChoiceDesk();
      for (int b = 0; b < 4; b++) {
        for (int what = 0; what < 6; what++) due(0, x.count(b, what));
        due(1, x.wholes(b));
        due(1, x.size(b, -1));
        due(1, x.same(b, 3 - b));
        due(-1, x.rule(b, 0));
        due(-1, x.saying(b, 2, 0, 0));
        due(-1, x.saying(b, 8, 0, 0));
        due(-1, x.row(b, 0, 0, 0, 0));
      }
      for (AskBy call : Calls.BY_QUESTION) refused(-1, Desks::empty, y -> call.of(y, 0));
    });
    told("there are no ORDERS.", () -> {
      due(0, new ChoiceDesk().count(0, 6));
      due(0, new ChoiceDesk().start(0));
      for (AskBy call : Calls.BY_ORDER) refused(-1, Desks::empty, x -> call.of(x, 0));
      for (AskBy call : Calls.BY_ORDER_THAT_THROW) refused(ARGUMENT, Desks::empty, x -> call.of(x, 0));
    });
  }

  private static void question() {
    section("Promise 2");
    told("A QUESTION comes to a BOOK: its number.", () -> {
      ChoiceDesk x = new ChoiceDesk();
      int ways = 1;
      for (int q = 0; q < 8; q++) {
        due(q, x.question(3, q, 0, 1 + q % 3, 0));
        ways *= 1 + q % 3;
        due(ways, x.wholes(3));
        due(q + 1, x.count(3, 0));
      }
      due(0, x.question(1, 0, 0, 2, 0));
      due(0, x.count(0, 0));
    });
    told("how: n (of YES 2),", () -> {
      refusedOutside(2, 2, -1, Desks::three, (x, how) -> x.question(0, 9, 1, how, 0));
      ChoiceDesk x = new ChoiceDesk();
      x.question(0, 1, 1, 2, 0);
      x.question(1, 1, 0, 5, 0);
      x.question(2, 1, 2, 4, 0);
      due(2, x.wholes(0));
      due(5, x.wholes(1));
      due(4, x.wholes(2));
      refused(-1, Desks::three, y -> y.question(0, 9, 0, 213, 0));
      refused(-1, Desks::three, y -> y.question(0, 9, 2, 102, 0));
    });
    told("of MANY also 10 times the least and 100 times the greatest number of things", () -> {
      int taken = 0;
      for (int how = -1300; how <= 1300; how++) taken += new ChoiceDesk().question(0, 1, 3, how, 0) == 0 ? 1 : 0;
      due(3 + 6 + 10, taken);
      ChoiceDesk x = new ChoiceDesk();
      due(-1, x.question(0, 1, 3, 312, 0));
      due(0, x.question(0, 1, 3, 213, 0));
      for (int set = 0; set < 8; set++) due(set == 0 || set == 7 ? -1 : 0, x.dead(0, 0, set));
      refusedOutside(1, 333, -1, Desks::three, (y, how) -> y.question(0, 9, 3, how, 0));
    });
    told("(0 .. n, the least not above the greatest);", () -> {
      for (int n = 1; n <= 3; n++) {
        due(0, new ChoiceDesk().question(0, 1, 3, n, 0));
        due(0, new ChoiceDesk().question(0, 1, 3, n + 100 * n, 0));
        due(0, new ChoiceDesk().question(0, 1, 3, n + 110 * n, 0));
        int things = n;
        refused(-1, Desks::three, x -> x.question(0, 9, 3, things + 100 * (things + 1), 0));
        refused(-1, Desks::three, x -> x.question(0, 9, 3, things + 110 * (things + 1), 0));
        refused(-1, Desks::three, x -> x.question(0, 9, 3, things + 10, 0));
        refused(-1, Desks::three, x -> x.question(0, 9, 3, things + 100 * (things - 1) + 10 * things, 0));
        refused(-1, Desks::three, x -> x.question(0, 9, 3, things - 100, 0));
        refused(-1, Desks::three, x -> x.question(0, 9, 3, things + 100 - 10, 0));
      }
    });
    told("from: of NUMBER;", () -> {
      for (int from = -101; from <= 101; from++) {
        due(Math.abs(from) > 100 ? -1 : 0, new ChoiceDesk().question(0, 1, 2, 1, from));
      }
      refusedOutside(-100, 100, -1, Desks::three, (x, from) -> x.question(0, 9, 2, 6, from));
    });
    told("of others any.", () -> {
      for (int from : new int[] {LEAST, -101, 101, MOST}) {
        ChoiceDesk x = new ChoiceDesk();
        due(0, x.question(0, 0, 0, 3, from));
        due(1, x.question(0, 1, 1, 2, from));
        due(2, x.question(0, 2, 3, 213, from));
        int[] weights = {13, 24, 116};
        for (int q = 0; q < 3; q++) {
          x.keep(q, 1, 0, q);
          due(weights[q], x.weight(q));
        }
        x.rule(0, x.saying(0, 7, 7, 0));
        due(0, x.wholes(0));
        x.rule(0, x.saying(0, 7, 7, 1));
        x.drop(0, 0);
        due(3, x.wholes(0));
      }
    });
  }

  private static ChoiceDesk withSaying() {
    ChoiceDesk x = Desks.three();
    x.saying(0, 7, 0, 0);
    return x;
  }

  private static ChoiceDesk withTable() {
    ChoiceDesk x = Desks.three();
    x.table(0, 0, -1, -1);
    return x;
  }

  private static ChoiceDesk withOrder() {
    ChoiceDesk x = Desks.three();
    x.start(0);
    return x;
  }

  private static ChoiceDesk withCarriedOrder() {
    ChoiceDesk x = Desks.three();
    x.start(1);
    x.carry(0, 0);
    return x;
  }

  /** What is no bar to a new question: prices, pairs, steps, defaults, the turn, shelves, other books. */
  private static ChoiceDesk withAllElse() {
    ChoiceDesk x = Desks.three();
    x.price(0, 0, 0, 5);
    x.pair(0, 1, 0, 5);
    x.step(0, 1, 0, 5);
    x.standard(0, 0, 1);
    x.turn(0, 0, 2);
    x.keep(0, 1, 0, 0);
    x.question(1, 1, 0, 2, 0);
    x.table(1, 0, -1, -1);
    x.rule(1, x.saying(1, 8, 0, 0));
    x.start(1);
    return x;
  }

  private static void questionRefusals() {
    told("-1 (the NAME is there, too);", () -> {
      for (int name = 50; name <= 52; name++) {
        int there = name;
        refused(-1, Desks::three, x -> x.question(0, there, 0, 2, 0));
        due(0, Desks.three().question(1, there, 0, 2, 0));
      }
      due(3, Desks.three().question(0, 53, 0, 2, 0));
      refusedOutside(0, 3, -1, Desks::three, (x, b) -> x.question(b, 9, 0, 2, 0));
      refusedOutside(0, 3, -1, Desks::three, (x, kind) -> x.question(0, 9, kind, 2, 0));
    });
    told("-2: there are 8,", () -> {
      refused(-2, () -> Desks.yeses(8), x -> x.question(0, 8, 0, 1, 0));
      due(7, Desks.yeses(7).question(0, 8, 0, 1, 0));
      due(0, Desks.yeses(8).question(1, 8, 0, 1, 0));
    });
    told("or too many ways;", () -> {
      refused(-2, Desks::mostWays, x -> x.question(0, 9, 1, 2, 0));
      refused(-2, Desks::mostWays, x -> x.question(0, 9, 3, 303, 0));
      refused(-2, Desks::halfOf20160, x -> x.question(0, 9, 0, 2, 0));
      due(5, Desks.halfOf20160().question(0, 9, 0, 1, 0));
      due(6, Desks.mostWays().question(0, 9, 2, 1, 0));
    });
    told("-3: it has SAYINGS, TABLES, ORDERS.", () -> {
      refused(-3, BookSentences::withSaying, x -> x.question(0, 9, 0, 1, 0));
      refused(-3, BookSentences::withTable, x -> x.question(0, 9, 0, 1, 0));
      refused(-3, BookSentences::withOrder, x -> x.question(0, 9, 0, 1, 0));
      refused(-3, BookSentences::withCarriedOrder, x -> x.question(0, 9, 0, 1, 0));
      ChoiceDesk x = withAllElse();
      due(3, x.question(0, 9, 0, 2, 0));
      due(48, x.wholes(0));
      due(3, x.turn(0, 3, 0));
      due(1, x.standard(0, 0, 0));
      due(0, x.standard(0, 3, 1));
    });
  }

  private static void saying() {
    section("Promise 3");
    told("A SAYING comes to a BOOK: its number.", () -> {
      ChoiceDesk x = Desks.three();
      for (int s = 0; s < 5; s++) {
        due(s, x.saying(0, 0, 0, s % 3));
        due(s + 1, x.count(0, 1));
      }
      due(0, x.saying(3, 7, 0, 0));
      due(24, x.wholes(0));
    });
    told("x, y: what its KIND has, in the order told", () -> {
      ChoiceDesk x = Desks.busy();
      due(5, x.saying(0, 0, 2, 3));
      due(-1, x.saying(0, 0, 1, 3));
      due(6, x.saying(0, 1, 3, 2));
      due(-1, x.saying(0, 1, 2, 3));
      due(7, x.saying(0, 7, 4, 20));
      due(-1, x.saying(0, 7, 20, 4));
      ChoiceDesk y = Desks.yeses(2);
      y.saying(0, 0, 0, 1);
      y.saying(0, 0, 1, 1);
      y.saying(0, 5, 0, 1);
      y.rule(0, 2);
      y.start(0);
      y.choose(0, 1, 0);
      due(0, y.value(0, 0));
      y.choose(0, 1, 1);
      due(-2, y.value(0, 0));
    });
    told("(others don't matter).", () -> {
      for (int other : new int[] {LEAST, -1, 0, 5, MOST}) {
        ChoiceDesk x = Desks.busy();
        due(5, x.saying(0, 2, 2, other));
        due(6, x.saying(0, 8, 0, other));
        due(4, x.rule(0, 5));
        due(5, x.rule(0, 6));
        due(2 * 2 * 3 * 3, x.wholes(0));
      }
    });
    told("-1;", () -> {
      refusedOutside(0, 3, -1, Desks::busy, (x, b) -> x.saying(b, 7, 0, 0));
      refusedOutside(0, 8, -1, Desks::busy, (x, kind) -> x.saying(0, kind, 0, 0));
      refusedOutside(0, 3, -1, Desks::busy, (x, q) -> x.saying(0, 0, q, 1));
      refusedOutside(0, 2, -1, Desks::busy, (x, v) -> x.saying(0, 0, 0, v));
      refusedOutside(3, 3, -1, Desks::busy, (x, q) -> x.saying(0, 1, q, 0));
      refusedOutside(0, 2, -1, Desks::busy, (x, i) -> x.saying(0, 1, 3, i));
      for (int k = 2; k <= 6; k++) {
        int kind = k;
        refusedOutside(0, 4, -1, Desks::busy, (x, a) -> x.saying(0, kind, a, 0));
        if (kind > 2) refusedOutside(0, 4, -1, Desks::busy, (x, b) -> x.saying(0, kind, 0, b));
      }
      refusedOutside(0, 15, -1, Desks::busy, (x, set) -> x.saying(0, 7, set, 0));
      refusedOutside(0, 0, -1, Desks::busy, (x, t) -> x.saying(0, 8, t, 0));
    });
    told("-2: there are 48.", () -> {
      refused(-2, Desks::fullOfSayings, x -> x.saying(0, 7, 0, 0));
      refused(-2, Desks::fullOfSayings, x -> x.saying(0, 2, 47, 0));
      due(0, Desks.fullOfSayings().saying(1, 7, 0, 0));
      ChoiceDesk x = Desks.three();
      for (int s = 0; s < 47; s++) x.saying(0, 7, 7, s);
      due(47, x.saying(0, 3, 46, 45));
      due(-2, x.saying(0, 3, 46, 45));
    });
  }

  private static void table() {
    section("Promise 4");
    told("A TABLE of QUESTIONS x, y, z", () -> {
      ChoiceDesk x = Desks.three();
      x.table(0, 2, 1, 0);
      x.rule(0, x.saying(0, 8, 0, 0));
      due(-1, x.row(0, 0, 2, 1, 3));
      due(1, x.row(0, 0, 3, 1, 2));
      x.start(0);
      due(2, x.value(0, 0));
      due(1, x.value(0, 1));
      due(3, x.value(0, 2));
    });
    told("(y, z: -1 for none;", () -> {
      for (int n : outside(0, 2)) {
        refused(-1, Desks::three, x -> x.table(0, n, -1, -1));
        refused(-1, Desks::three, x -> x.table(0, n, 0, 1));
        if (n == -1) continue;
        refused(-1, Desks::three, x -> x.table(0, 0, n, -1));
        refused(-1, Desks::three, x -> x.table(0, 0, n, 1));
        refused(-1, Desks::three, x -> x.table(0, 0, 1, n));
      }
      ChoiceDesk x = Desks.three();
      due(0, x.table(0, 1, -1, -1));
      due(1, x.table(0, 1, 0, -1));
      due(1, x.row(0, 0, 1, 9, 9));
      due(-1, x.row(0, 1, 1, 9, 9));
      due(1, x.row(0, 1, 1, 2, 9));
    });
    told("z none without y)", () -> {
      for (int z = 0; z < 3; z++) {
        int third = z;
        for (int q = 0; q < 3; q++) {
          int first = q;
          refused(-1, Desks::three, x -> x.table(0, first, -1, third));
        }
      }
    });
    told("comes to a BOOK: its number.", () -> {
      ChoiceDesk x = Desks.busy();
      for (int t = 1; t < 4; t++) {
        due(t, x.table(0, 0, -1, -1));
        due(t + 1, x.count(0, 2));
      }
      due(0, x.table(1, 1, 0, -1));
    });
    told("-1;", () -> {
      refusedOutside(0, 3, -1, Desks::three, (x, b) -> x.table(b, 0, -1, -1));
      refusedOutside(0, 2, -1, Desks::three, (x, q) -> x.table(0, q, -1, -1));
      refused(-1, Desks::three, x -> x.table(1, 0, -1, -1));
      refused(-1, Desks::three, x -> x.table(0, 2, 2, -1));
      refused(-1, Desks::three, x -> x.table(0, 0, 2, 0));
      refused(-1, Desks::three, x -> x.table(0, 0, 2, 2));
    });
    told("-2: there are 4.", () -> {
      refused(-2, Desks::fullOfTables, x -> x.table(0, 0, -1, -1));
      refused(-2, Desks::fullOfTables, x -> x.table(0, 0, 1, 2));
      ChoiceDesk x = Desks.fullOfTables();
      due(4, x.count(0, 2));
      x.question(1, 1, 0, 2, 0);
      due(0, x.table(1, 0, -1, -1));
    });
  }

  /** Tables of one, two, three questions. */
  private static ChoiceDesk threeTables() {
    ChoiceDesk x = Desks.three();
    x.table(0, 0, -1, -1);
    x.table(0, 0, 1, -1);
    x.table(0, 0, 1, 2);
    for (int t = 0; t < 3; t++) x.saying(0, 8, t, 0);
    return x;
  }

  private static void row() {
    section("Promise 5");
    told("A ROW comes to a TABLE (VALUES of its QUESTIONS;", () -> {
      for (int t = 0; t < 3; t++) {
        int table = t;
        refusedOutside(0, 2, -1, BookSentences::threeTables, (x, v) -> x.row(0, table, v, 0, 0));
        if (t > 0) refusedOutside(0, 1, -1, BookSentences::threeTables, (x, v) -> x.row(0, table, 0, v, 0));
      }
      refusedOutside(0, 3, -1, BookSentences::threeTables, (x, v) -> x.row(0, 2, 0, 0, v));
      ChoiceDesk x = threeTables();
      due(1, x.row(0, 2, 2, 1, 3));
      x.rule(0, 2);
      x.start(0);
      for (int q = 0; q < 3; q++) due(q == 0 ? 2 : q == 1 ? 1 : 3, x.value(0, q));
      due(2, x.row(0, 2, 2, 0, 3));
      due(-2, x.value(0, 1));
      due(2, x.wholes(0));
      ChoiceDesk sets = new ChoiceDesk();
      sets.question(0, 1, 3, 213, 0);
      sets.question(0, 2, 3, 333, 0);
      sets.question(0, 3, 3, 223, 0);
      sets.table(0, 2, 0, 1);
      sets.rule(0, sets.saying(0, 8, 0, 0));
      due(-1, sets.row(0, 0, 7, 4, 7));
      due(-1, sets.row(0, 0, 5, 7, 7));
      due(-1, sets.row(0, 0, 5, 4, 6));
      due(1, sets.row(0, 0, 5, 4, 7));
      sets.start(0);
      due(4, sets.value(0, 0));
      due(7, sets.value(0, 1));
      due(5, sets.value(0, 2));
    });
    told("others don't matter):", () -> {
      for (int other : new int[] {LEAST, -1, 8, MOST}) {
        ChoiceDesk x = threeTables();
        due(1, x.row(0, 0, 2, other, other));
        due(1, x.row(0, 1, 2, 1, other));
        x.rule(0, 0);
        due(8, x.wholes(0));
        x.rule(0, 1);
        due(4, x.wholes(0));
      }
    });
    told("how many.", () -> {
      ChoiceDesk x = threeTables();
      for (int i = 1; i <= 20; i++) {
        due(i, x.row(0, 0, i % 3, 0, 0));
        due(i, x.row(0, 2, 0, 0, 0));
      }
      due(1, x.row(0, 1, 0, 0, 0));
    });
    told("-1;", () -> {
      refusedOutside(0, 3, -1, Desks::busy, (x, b) -> x.row(b, 0, 0, 0, 0));
      refused(-1, Desks::busy, x -> x.row(1, 0, 0, 0, 0));
      refusedOutside(0, 0, -1, Desks::busy, (x, t) -> x.row(0, t, 0, 0, 0));
      refusedOutside(0, 2, -1, Desks::busy, (x, v) -> x.row(0, 0, v, 0, 0));
      refusedOutside(0, 1, -1, Desks::busy, (x, v) -> x.row(0, 0, 0, v, 0));
    });
    told("-2: there are 20.", () -> {
      refused(-2, Desks::fullOfRows, x -> x.row(0, 0, 2, 0, 0));
      refused(-2, Desks::fullOfRows, x -> x.row(0, 0, 1, 0, 0));
      due(8, Desks.fullOfRows().wholes(0));
      ChoiceDesk x = threeTables();
      for (int i = 0; i < 19; i++) x.row(0, 0, 1, 0, 0);
      x.rule(0, 0);
      due(20, x.row(0, 0, 2, 0, 0));
      due(16, x.wholes(0));
      due(-2, x.row(0, 0, 0, 0, 0));
      due(16, x.wholes(0));
    });
  }

  private static void rule() {
    section("Promise 6");
    told("A SAYING becomes a RULE: how many there are.", () -> {
      ChoiceDesk x = Desks.fullOfSayings();
      for (int i = 1; i <= 16; i++) {
        due(i, x.rule(0, 48 - i));
        due(i, x.count(0, 3));
      }
      due(0, x.wholes(0));
      ChoiceDesk y = Desks.fullOfSayings();
      due(1, y.rule(0, 2));
      due(6, y.wholes(0));
      due(2, y.rule(0, 6));
      due(6, y.wholes(0));
    });
    told("-1;", () -> {
      refusedOutside(0, 3, -1, Desks::busy, (x, b) -> x.rule(b, 2));
      refusedOutside(0, 4, -1, Desks::busy, (x, s) -> x.rule(0, s));
      refused(-1, Desks::busy, x -> x.rule(1, 0));
      refused(-1, Desks::fullOfSayings, x -> x.rule(0, 48));
    });
    told("-2: there are 16;", () -> {
      refused(-2, Desks::fullOfRules, x -> x.rule(0, 16));
      ChoiceDesk x = Desks.fullOfRules();
      due(24, x.wholes(0));
      due(0, x.saying(1, 7, 0, 0));
      due(1, x.rule(1, 0));
      due(15, x.drop(0, 4));
      due(16, x.rule(0, 4));
      due(-2, x.rule(0, 16));
    });
    told("-3: it is one.", () -> {
      for (int s : new int[] {0, 1, 4}) refused(-3, Desks::busy, x -> x.rule(0, s));
      due(4, Desks.busy().rule(0, 2));
      ChoiceDesk x = Desks.busy();
      x.drop(0, 1);
      due(3, x.rule(0, 1));
      due(-3, x.rule(0, 1));
    });
  }

  private static void drop() {
    section("Promise 7");
    told("A RULE (by its SAYING) is none any more: how many there are.", () -> {
      ChoiceDesk x = Desks.fullOfRules();
      for (int i = 0; i < 16; i++) {
        int saying = i % 2 == 0 ? i / 2 : 15 - i / 2;
        due(15 - i, x.drop(0, saying));
        due(15 - i, x.count(0, 3));
        due(-1, x.needless(0, saying));
      }
      ChoiceDesk y = Desks.three();
      for (int v = 0; v < 3; v++) y.rule(0, y.saying(0, 0, 0, v));
      due(2, y.drop(0, 0));
      due(0, y.wholes(0));
      due(1, y.drop(0, 2));
      due(8, y.wholes(0));
      due(0, y.dead(0, 0, 1));
      due(0, y.drop(0, 1));
      due(24, y.wholes(0));
    });
    told("-1.", () -> {
      refusedOutside(0, 3, -1, Desks::busy, (x, b) -> x.drop(b, 0));
      for (int s : new int[] {-1, 2, 3, 5, 16, 48, LEAST, MOST}) refused(-1, Desks::busy, x -> x.drop(0, s));
      refused(-1, Desks::busy, x -> x.drop(1, 0));
      refused(-1, Desks::empty, x -> x.drop(0, 0));
      ChoiceDesk x = Desks.busy();
      due(2, x.drop(0, 4));
      due(-1, x.drop(0, 4));
    });
  }

  /** In a turn of eight, the one at a place goes to another; those between go one place on. */
  private static void goesTo(int from, int to) {
    ChoiceDesk x = Desks.yeses(8);
    List<Integer> turn = new ArrayList<>(List.of(3, 6, 1, 7, 0, 5, 2, 4));
    for (int place = 0; place < 8; place++) x.turn(0, turn.get(place), place);
    due(from, x.turn(0, turn.get(from), to));
    turn.add(to, turn.remove(from));
    for (int place = 0; place < 8; place++) due(place, x.turn(0, turn.get(place), place));
  }

  private static void turn() {
    section("Promise 8");
    told("In THE TURN of a BOOK a QUESTION goes to a place (from 0): where it was.", () -> {
      ChoiceDesk x = Desks.yeses(5);
      due(0, x.turn(0, 0, 4));
      int[] places = {4, 0, 1, 2, 3};
      for (int q = 0; q < 5; q++) due(places[q], x.turn(0, q, places[q]));
      due(3, x.turn(0, 4, 1));
      int[] then = {4, 0, 2, 3, 1};
      for (int q = 0; q < 5; q++) due(then[q], x.turn(0, q, then[q]));
      due(2, x.turn(0, 2, 0));
      int[] last = {4, 1, 0, 3, 2};
      for (int q = 0; q < 5; q++) due(last[q], x.turn(0, q, last[q]));
      for (int from = 0; from < 8; from++) {
        for (int to = 0; to < 8; to++) goesTo(from, to);
      }
    });
    told("-1.", () -> {
      refusedOutside(0, 3, -1, Desks::busy, (x, b) -> x.turn(b, 0, 0));
      refusedOutside(0, 3, -1, Desks::busy, (x, q) -> x.turn(0, q, 0));
      refusedOutside(0, 3, -1, Desks::busy, (x, place) -> x.turn(0, 0, place));
      refusedOutside(0, 1, -1, Desks::busy, (x, place) -> x.turn(1, 0, place));
      refusedOutside(0, 7, -1, Desks::eight, (x, place) -> x.turn(0, 0, place));
      refused(-1, Desks::busy, x -> x.turn(2, 0, 0));
    });
  }

  private static void wholes() {
    section("Promise 9");
    told("How many WHOLES a BOOK has.", () -> {
      due(1, new ChoiceDesk().wholes(0));
      due(24, Desks.three().wholes(0));
      due(1024, Desks.eight().wholes(0));
      due(20000, Desks.mostWays().wholes(0));
      due(0, Desks.deadEnd().wholes(0));
      due(3 * (2 * 2 * 6 + 3), Desks.busy().wholes(0));
      ChoiceDesk x = Desks.mostWays();
      x.rule(0, x.saying(0, 7, 31, 0));
      due(8, x.wholes(0));
      x.rule(0, x.saying(0, 0, 5, 7));
      due(1, x.wholes(0));
    });
    told("-1.", () -> refusedOutside(0, 3, -1, Desks::busy, (x, b) -> x.wholes(b)));
  }

  private static void size() {
    section("Promise 10");
    told("How many PLACES layer k of THE GRAPH has;", () -> {
      ChoiceDesk x = Desks.three();
      x.rule(0, x.saying(0, 7, 5, 12));
      int[] places = {1, 3, 3, 1};
      for (int k = 0; k < 4; k++) due(places[k], x.size(0, k));
      x.turn(0, 1, 0);
      int[] turned = {1, 1, 3, 1};
      for (int k = 0; k < 4; k++) due(turned[k], x.size(0, k));
      x.drop(0, 0);
      for (int k = 0; k < 4; k++) due(1, x.size(0, k));
      for (int k = 0; k < 7; k++) due(1, Desks.mostWays().size(0, k));
    });
    told("of all layers together (k -1).", () -> {
      ChoiceDesk x = Desks.three();
      due(4, x.size(0, -1));
      x.rule(0, x.saying(0, 7, 5, 12));
      due(8, x.size(0, -1));
      x.turn(0, 1, 0);
      due(6, x.size(0, -1));
      Desks.breakAll(x, 0);
      due(0, x.size(0, -1));
      due(1, x.size(1, -1));
      due(7, Desks.mostWays().size(0, -1));
      due(9, Desks.eight().size(0, -1));
      int[][] values = {{5, 5, 5, 5, 5, 6}, {5, 5, 5, 5, 4, 4, 2}, {2, 2, 2, 2, 2, 2, 2, 6}, {1, 1, 1}};
      ChoiceDesk large = new ChoiceDesk();
      for (int b = 0; b < 4; b++) {
        for (int q = 0; q < values[b].length; q++) large.question(b, q, 0, values[b][q], 0);
      }
      for (int b = 0; b < 8; b++) due(values[b % 4].length + 1, large.size(b % 4, -1));
      due(20000, large.wholes(1));
    });
    told("-1.", () -> {
      refusedOutside(0, 3, -1, Desks::busy, (x, b) -> x.size(b, 0));
      refusedOutside(-1, 4, -1, Desks::busy, (x, k) -> x.size(0, k));
      refusedOutside(-1, 0, -1, Desks::busy, (x, k) -> x.size(2, k));
      refusedOutside(-1, 8, -1, Desks::eight, (x, k) -> x.size(0, k));
      refusedOutside(-1, 3, -1, Desks::deadEnd, (x, k) -> x.size(0, k));
    });
  }

  private static void dead() {
    section("Promise 11");
    told("Whether a VALUE of a QUESTION is DEAD: 1, if no WHOLE has it, else 0.", () -> {
      ChoiceDesk x = Desks.busy();
      for (int v = 0; v < 4; v++) due(v == 3 ? 1 : 0, x.dead(0, 2, v));
      x.rule(0, 3);
      for (int v = 0; v < 3; v++) due(v == 2 ? 0 : 1, x.dead(0, 0, v));
      for (int v = 0; v < 2; v++) due(v == 1 ? 0 : 1, x.dead(0, 1, v));
      for (int v = 1; v < 7; v++) due(v % 2 == 1 ? 0 : 1, x.dead(0, 3, v));
      for (int v = 0; v < 3; v++) due(1, Desks.deadEnd().dead(0, 0, v));
      ChoiceDesk y = Desks.three();
      y.start(0);
      y.choose(0, 0, 1);
      for (int v = 0; v < 3; v++) due(0, y.dead(0, 0, v));
    });
    told("-1 (no such VALUE).", () -> {
      refusedOutside(0, 3, -1, Desks::busy, (x, b) -> x.dead(b, 0, 0));
      refusedOutside(0, 3, -1, Desks::busy, (x, q) -> x.dead(0, q, 1));
      int[] least = {0, 0, 0, 1};
      int[] most = {2, 1, 3, 6};
      for (int q = 0; q < 4; q++) {
        int question = q;
        refusedOutside(least[q], most[q], -1, Desks::busy, (x, v) -> x.dead(0, question, v));
        refusedOutside(0, 2, -1, Desks::deadEnd, (x, v) -> x.dead(0, 0, v));
      }
      ChoiceDesk x = new ChoiceDesk();
      x.question(0, 1, 3, 223, 0);
      for (int v = 0; v < 9; v++) due(v == 3 || v == 5 || v == 6 ? 0 : -1, x.dead(0, 0, v));
    });
  }

  private static void needless() {
    section("Promise 12");
    told("Whether a RULE (by its SAYING) is needless: 1, if there are the same WHOLES without it.", () -> {
      ChoiceDesk x = Desks.three();
      x.saying(0, 7, 4, 11);
      x.saying(0, 7, 4, 12);
      x.saying(0, 7, 4, 13);
      x.saying(0, 7, 4, 11);
      x.rule(0, 2);
      due(1, x.needless(0, 2));
      x.rule(0, 1);
      due(0, x.needless(0, 1));
      x.rule(0, 0);
      due(0, x.needless(0, 0));
      due(1, x.needless(0, 1));
      x.rule(0, 3);
      due(1, x.needless(0, 0));
      due(1, x.needless(0, 3));
      x.drop(0, 0);
      due(0, x.needless(0, 3));
      Desks.breakAll(x, 0);
      due(1, x.needless(0, 3));
      due(0, x.needless(0, 4));
      due(1, Desks.fullOfRules().needless(0, 15));
      ChoiceDesk y = new ChoiceDesk();
      y.rule(0, y.saying(0, 7, 0, 0));
      due(1, y.needless(0, 0));
      Desks.breakAll(y, 0);
      due(0, y.needless(0, 1));
    });
    told("-1: it is no RULE.", () -> {
      refusedOutside(0, 3, -1, Desks::busy, (x, b) -> x.needless(b, 0));
      for (int s : new int[] {-1, 2, 3, 5, 48, LEAST, MOST}) refused(-1, Desks::busy, x -> x.needless(0, s));
      refused(-1, Desks::fullOfRules, x -> x.needless(0, 16));
      refused(-1, Desks::empty, x -> x.needless(0, 0));
      ChoiceDesk x = Desks.busy();
      due(0, x.needless(0, 1));
      x.drop(0, 1);
      due(-1, x.needless(0, 1));
    });
  }

  private static void sameAs(int want, ChoiceDesk x) {
    due(want, x.same(0, 1));
    due(want, x.same(1, 0));
  }

  /** Two books of one question, each with one whole. */
  private static ChoiceDesk lonely(int v, int w) {
    ChoiceDesk x = new ChoiceDesk();
    for (int b = 0; b < 2; b++) {
      x.question(b, 1, 0, 3, 0);
      x.rule(b, x.saying(b, 0, 0, b == 0 ? v : w));
    }
    return x;
  }

  private static void same() {
    section("Promise 13");
    told("Whether two BOOKS are the same: 1, if they have QUESTIONS of the same NAMES,", () -> {
      ChoiceDesk x = new ChoiceDesk();
      sameAs(1, x);
      x.question(0, 1, 0, 1, 0);
      sameAs(0, x);
      x.question(1, 2, 0, 1, 0);
      sameAs(0, x);
      x.question(0, 2, 0, 1, 0);
      sameAs(0, x);
      x.question(1, 1, 0, 1, 0);
      sameAs(1, x);
      x.question(0, 3, 0, 1, 0);
      x.question(1, 4, 0, 1, 0);
      sameAs(0, x);
      Desks.breakAll(x, 0);
      Desks.breakAll(x, 1);
      sameAs(0, x);
    });
    told("and, QUESTIONS of one NAME having one VALUE, the same WHOLES,", () -> {
      ChoiceDesk x = Desks.three();
      x.question(1, 52, 0, 4, 0);
      x.question(1, 50, 2, 3, -7);
      x.question(1, 51, 0, 2, 0);
      sameAs(1, x);
      x.rule(0, x.saying(0, 0, 0, 2));
      sameAs(0, x);
      x.rule(1, x.saying(1, 0, 1, 2));
      sameAs(1, x);
      x.rule(0, x.saying(0, 0, 2, 3));
      x.saying(1, 0, 0, 3);
      x.saying(1, 0, 0, 2);
      x.rule(1, 2);
      sameAs(0, x);
      x.drop(1, 2);
      x.rule(1, 1);
      sameAs(1, x);
    });
    told("else 0.", () -> {
      ChoiceDesk x = new ChoiceDesk();
      x.question(0, 1, 3, 112, 0);
      x.question(1, 1, 0, 3, 0);
      sameAs(0, x);
      x.rule(1, x.saying(1, 0, 0, 0));
      sameAs(0, x);
      x.drop(1, 0);
      x.rule(1, x.saying(1, 2, 0, 0));
      sameAs(1, x);
      Desks.breakAll(x, 0);
      sameAs(0, x);
      Desks.breakAll(x, 1);
      sameAs(1, x);
      for (int v = 0; v < 3; v++) {
        for (int w = 0; w < 3; w++) sameAs(v == w ? 1 : 0, lonely(v, w));
      }
      ChoiceDesk y = new ChoiceDesk();
      y.question(0, 1, 0, 3, 0);
      y.question(1, 1, 0, 2, 0);
      y.rule(0, y.saying(0, 2, y.saying(0, 0, 0, 1), 0));
      sameAs(0, y);
      y.drop(0, 1);
      y.rule(0, y.saying(0, 2, y.saying(0, 0, 0, 2), 0));
      sameAs(1, y);
    });
    told("-1.", () -> {
      refusedOutside(0, 3, -1, Desks::busy, (x, b) -> x.same(b, 0));
      refusedOutside(0, 3, -1, Desks::busy, (x, b) -> x.same(0, b));
      refused(-1, Desks::busy, x -> x.same(4, 4));
      for (int b = 0; b < 4; b++) due(1, Desks.busy().same(b, b));
    });
  }
}

/** The sentences of "Terms", one by one. */
final class TermSentences extends Sentences {
  private TermSentences() {
  }

  static void all() {
    section("Terms");
    books();
    kinds();
    worths();
    sayings();
    joinedSayings();
    tables();
    wholes();
    graph();
    orders();
    deadEnds();
    reasons();
    prices();
    wishes();
    shelves();
    orderOfRefusals();
    refusalsChangeNothing();
  }

  private static void books() {
    told("BOOKS 0 .. 3.", () -> {
      for (AskBy call : Calls.BY_BOOK) refusedOutside(0, 3, -1, Desks::busy, call);
      ChoiceDesk x = new ChoiceDesk();
      for (int b = 0; b < 4; b++) due(0, x.question(b, 9, 0, b + 1, 0));
      for (int b = 0; b < 4; b++) due(b + 1, x.wholes(b));
    });
    told("A BOOK has QUESTIONS 0 .. 7, as they come", () -> {
      ChoiceDesk x = new ChoiceDesk();
      for (int q = 0; q < 8; q++) due(q, x.question(2, 100 - q, q % 2, 2, 0));
      for (AskBy call : Calls.BY_QUESTION) {
        refusedOutside(0, 7, -1, Desks::eight, call);
        refusedOutside(0, 3, -1, Desks::busy, call);
        refused(-1, Desks::empty, y -> call.of(y, 0));
      }
      due(0, Desks.eight().turn(0, 0, 7));
      due(7, Desks.eight().turn(0, 7, 0));
    });
    told("each with a NAME (an int; of one BOOK no two have the same)", () -> {
      ChoiceDesk x = new ChoiceDesk();
      int[] names = {LEAST, -1, 0, 1, MOST};
      for (int i = 0; i < 5; i++) due(i, x.question(0, names[i], 0, 1, 0));
      for (int i = 0; i < 5; i++) {
        due(-1, x.question(0, names[i], 1, 2, 0));
        due(i, x.question(1, names[i], 0, 1, 0));
      }
      due(1, x.same(0, 1));
    });
    told("There may be 20000 ways at most to give all QUESTIONS of a BOOK VALUES.", () -> {
      ChoiceDesk x = Desks.mostWays();
      due(20000, x.wholes(0));
      due(-2, x.question(0, 6, 1, 2, 0));
      due(6, x.question(0, 6, 0, 1, 0));
      due(7, x.question(0, 7, 3, 333, 0));
      due(20000, x.wholes(0));
      due(9, x.size(0, -1));
      ChoiceDesk half = Desks.halfOf20160();
      due(-2, half.question(0, 9, 1, 2, 0));
      due(10080, half.wholes(0));
    });
  }

  /** Question 0 of a book has just these values, among all that could be asked. */
  private static void hasValues(ChoiceDesk x, int book, long bits) {
    for (int v = -2; v < 40; v++) due(v >= 0 && (bits >> v & 1) != 0 ? 0 : -1, x.dead(book, 0, v));
    due(-1, x.dead(book, 0, LEAST));
    due(-1, x.dead(book, 0, MOST));
    due(Long.bitCount(bits), x.wholes(book));
  }

  private static void kinds() {
    told("a KIND and VALUES", () -> {
      refusedOutside(0, 3, -1, Desks::three, (x, kind) -> x.question(1, 9, kind, 2, 0));
      int[] hows = {1, 2, 1, 101};
      ChoiceDesk x = new ChoiceDesk();
      for (int kind = 0; kind < 4; kind++) due(kind, x.question(0, kind, kind, hows[kind], 0));
    });
    told("0 ONE: 0 .. n - 1, n 1 to 6.", () -> {
      refusedOutside(1, 6, -1, Desks::three, (x, n) -> x.question(0, 9, 0, n, 0));
      for (int n = 1; n <= 6; n++) {
        ChoiceDesk x = new ChoiceDesk();
        due(0, x.question(1, 9, 0, n, 0));
        hasValues(x, 1, (1L << n) - 1);
      }
    });
    told("1 YES: 0, 1.", () -> {
      ChoiceDesk x = new ChoiceDesk();
      due(0, x.question(3, 9, 1, 2, 0));
      hasValues(x, 3, 3);
      for (AskBy call : Calls.BY_YES_VALUE) refusedOutside(0, 1, -1, Desks::busy, call);
    });
    told("2 NUMBER: 0 .. n - 1, n 1 to 6, with a number from which they begin (-100 .. 100).", () -> {
      refusedOutside(1, 6, -1, Desks::three, (x, n) -> x.question(0, 9, 2, n, 0));
      refusedOutside(-100, 100, -1, Desks::three, (x, from) -> x.question(0, 9, 2, 3, from));
      for (int n = 1; n <= 6; n++) {
        for (int from : new int[] {-100, -2, 0, 3, 100}) {
          ChoiceDesk x = new ChoiceDesk();
          due(0, x.question(2, 9, 2, n, from));
          hasValues(x, 2, (1L << n) - 1);
        }
      }
    });
    told("3 MANY: of n things, 1 to 3, sets as bits (thing i: bit i)"
        + " of at least so many things and at most so many.", () -> {
      for (int things = 1; things <= 3; things++) {
        for (int least = 0; least <= things; least++) {
          for (int greatest = least; greatest <= things; greatest++) {
            ChoiceDesk x = new ChoiceDesk();
            due(0, x.question(0, 9, 3, things + 10 * least + 100 * greatest, 0));
            hasValues(x, 0, setsOf(things, least, greatest));
          }
        }
      }
      due(-1, new ChoiceDesk().question(0, 9, 3, 0, 0));
      due(-1, new ChoiceDesk().question(0, 9, 3, 4, 0));
      due(-1, new ChoiceDesk().question(0, 9, 3, 114, 0));
    });
  }

  private static long setsOf(int things, int least, int greatest) {
    long sets = 0;
    for (int set = 0; set < 1 << things; set++) {
      int n = Integer.bitCount(set);
      if (n >= least && n <= greatest) sets |= 1L << set;
    }
    return sets;
  }

  /** A desk of one question that has one value left, so that sayings tell its worth. */
  private static void hasWorth(int kind, int how, int from, int value, int worth) {
    ChoiceDesk x = new ChoiceDesk();
    x.question(0, 1, kind, how, from);
    x.saying(0, 0, 0, value);
    x.saying(0, 7, 1, worth);
    x.saying(0, 7, 1, worth - 1);
    x.rule(0, 0);
    x.rule(0, 1);
    due(1, x.wholes(0));
    x.rule(0, 2);
    due(0, x.wholes(0));
  }

  private static void worths() {
    told("WORTH of a VALUE: ONE, YES: itself;", () -> {
      for (int v = 0; v < 6; v++) hasWorth(0, 6, 50, v, v);
      for (int v = 0; v < 2; v++) hasWorth(1, 2, 50, v, v);
    });
    told("NUMBER: itself and the number;", () -> {
      for (int v = 0; v < 6; v++) {
        hasWorth(2, 6, -100, v, v - 100);
        hasWorth(2, 6, 0, v, v);
        hasWorth(2, 6, 100, v, v + 100);
      }
    });
    told("MANY: how many things.", () -> {
      int[] worths = {0, 1, 1, 2, 1, 2, 2, 3};
      for (int set = 0; set < 8; set++) hasWorth(3, 303, 50, set, worths[set]);
    });
  }

  /** Of books of two YES: those ways (bit 2 x + y) in which the saying of that number holds. */
  private static int waysOf(ChoiceDesk x, int saying) {
    due(1, x.rule(0, saying));
    int ways = 0;
    int order = x.start(0);
    for (int a = 0; a < 2; a++) {
      for (int b = 0; b < 2; b++) {
        if (x.choose(order, 0, a) == 1 && x.may(order, 1, b) == 1) ways |= 1 << 2 * a + b;
        x.back(order, 0);
      }
    }
    due(0, x.drop(0, saying));
    return ways;
  }

  private static void sayings() {
    told("SAYINGS 0 .. 47 of a BOOK, as they come, each about VALUES of all QUESTIONS:", () -> {
      ChoiceDesk x = Desks.three();
      for (int s = 0; s < 48; s++) due(s, x.saying(0, 0, 2, s % 4));
      due(-2, x.saying(0, 0, 2, 0));
      for (int s : new int[] {0, 47}) {
        due(1, x.rule(0, s));
        due(6, x.wholes(0));
        due(0, x.drop(0, s));
      }
      due(0, x.saying(1, 7, 0, 0));
      for (int s : outside(0, 47)) {
        refused(-1, Desks::fullOfSayings, y -> y.rule(0, s));
        refused(-1, Desks::fullOfSayings, y -> y.saying(0, 2, s, 0));
      }
    });
    told("0 IS q v: QUESTION q has VALUE v.", () -> {
      ChoiceDesk x = Desks.yeses(2);
      due(0b1100, waysOf(x, x.saying(0, 0, 0, 1)));
      due(0b0101, waysOf(x, x.saying(0, 0, 1, 0)));
      refusedOutside(0, 2, -1, Desks::three, (y, v) -> y.saying(0, 0, 0, v));
      refusedOutside(0, 3, -1, Desks::three, (y, v) -> y.saying(0, 0, 2, v));
      refusedOutside(1, 6, -1, Desks::busy, (y, v) -> y.saying(0, 0, 3, v));
    });
    told("1 HAS q i: q (MANY) has thing i.", () -> {
      for (int i = 0; i < 3; i++) {
        ChoiceDesk x = new ChoiceDesk();
        x.question(0, 1, 3, 303, 0);
        x.rule(0, x.saying(0, 1, 0, i));
        for (int set = 0; set < 8; set++) due(1 - (set >> i & 1), x.dead(0, 0, set));
      }
      refusedOutside(0, 2, -1, Desks::busy, (x, i) -> x.saying(0, 1, 3, i));
      for (int q = 0; q < 3; q++) {
        int other = q;
        refused(-1, Desks::busy, x -> x.saying(0, 1, other, 0));
      }
      ChoiceDesk y = new ChoiceDesk();
      y.question(0, 1, 3, 101, 0);
      due(-1, y.saying(0, 1, 0, 1));
      due(-1, y.saying(0, 1, 0, 32));
      due(0, y.saying(0, 1, 0, 0));
    });
  }

  /** Two YES; sayings 0, 1: that the first, the second is 1. */
  private static ChoiceDesk twoSayings() {
    ChoiceDesk x = Desks.yeses(2);
    x.saying(0, 0, 0, 1);
    x.saying(0, 0, 1, 1);
    return x;
  }

  private static void holdsIn(int kind, int ways) {
    ChoiceDesk x = twoSayings();
    due(2, x.saying(0, kind, 0, 1));
    due(ways, waysOf(x, 2));
    due(3, x.saying(0, kind, 2, 2));
  }

  private static void joinedSayings() {
    told("2 NOT a,", () -> {
      ChoiceDesk x = twoSayings();
      due(2, x.saying(0, 2, 0, 1));
      due(3, x.saying(0, 2, 1, 0));
      due(4, x.saying(0, 2, 2, 0));
      due(0b0011, waysOf(x, 2));
      due(0b0101, waysOf(x, 3));
      due(0b1100, waysOf(x, 4));
    });
    told("3 AND a b,", () -> holdsIn(3, 0b1000));
    told("4 OR a b,", () -> holdsIn(4, 0b1110));
    told("5 IF a b (NOT a, or b),", () -> holdsIn(5, 0b1011));
    told("6 ALIKE a b (both hold, or none does):", () -> holdsIn(6, 0b1001));
    told("a, b SAYINGS before it.", () -> {
      for (int k = 2; k <= 6; k++) {
        int kind = k;
        refused(-1, Desks::three, x -> x.saying(0, kind, 0, 0));
        refusedOutside(0, 1, -1, TermSentences::twoSayings, (x, a) -> x.saying(0, kind, a, 0));
        refused(-1, TermSentences::twoSayings, x -> x.saying(0, kind, 2, 1));
        if (kind > 2) {
          refusedOutside(0, 1, -1, TermSentences::twoSayings, (x, b) -> x.saying(0, kind, 0, b));
          refused(-1, TermSentences::twoSayings, x -> x.saying(0, kind, 1, 2));
        }
        due(2, twoSayings().saying(0, kind, 1, 1));
      }
    });
    told("7 AT MOST s n: the WORTHS of QUESTIONS in the set s (bits) come to n at most.", () -> {
      ChoiceDesk x = Desks.yeses(2);
      int[] sets = {0, 1, 2, 3, 3, 3, 3, 0, 3, 3};
      int[] mosts = {0, 0, 0, 0, 1, 2, -1, -1, MOST, LEAST};
      int[] ways = {15, 0b0011, 0b0101, 0b0001, 0b0111, 15, 0, 0, 15, 0};
      for (int i = 0; i < sets.length; i++) due(ways[i], waysOf(x, x.saying(0, 7, sets[i], mosts[i])));
      refusedOutside(0, 7, -1, Desks::three, (y, set) -> y.saying(0, 7, set, 0));
      refusedOutside(0, 255, -1, Desks::eight, (y, set) -> y.saying(0, 7, set, 0));
      refusedOutside(0, 0, -1, Desks::three, (y, set) -> y.saying(1, 7, set, 0));
      ChoiceDesk full = Desks.eight();
      due(0, full.saying(0, 7, 255, 10));
      due(1, full.saying(0, 7, 255, 9));
      full.rule(0, 0);
      due(1024, full.wholes(0));
      full.rule(0, 1);
      due(1023, full.wholes(0));
    });
    told("8 IN t: the VALUES of TABLE t's QUESTIONS are one of its ROWS.", () -> {
      ChoiceDesk x = Desks.yeses(2);
      x.table(0, 1, 0, -1);
      x.table(0, 1, -1, -1);
      int two = x.saying(0, 8, 0, 0);
      int one = x.saying(0, 8, 1, 0);
      due(0, waysOf(x, two));
      x.row(0, 0, 0, 1, 0);
      due(0b0100, waysOf(x, two));
      due(0, waysOf(x, one));
      x.row(0, 0, 1, 1, 0);
      due(0b1100, waysOf(x, two));
      x.row(0, 1, 1, 0, 0);
      due(0b1010, waysOf(x, one));
      refusedOutside(0, 0, -1, Desks::busy, (y, t) -> y.saying(0, 8, t, 0));
      refusedOutside(0, 3, -1, Desks::fullOfTables, (y, t) -> y.saying(0, 8, t, 0));
    });
  }

  private static void tables() {
    told("TABLES 0 .. 3 of a BOOK, as they come,", () -> {
      ChoiceDesk x = Desks.three();
      for (int t = 0; t < 4; t++) due(t, x.table(0, t % 3, -1, -1));
      due(-2, x.table(0, 0, -1, -1));
      for (int t = 0; t < 4; t++) due(1, x.row(0, t, 0, 0, 0));
      refusedOutside(0, 3, -1, Desks::fullOfTables, (y, t) -> y.row(0, t, 0, 0, 0));
      refusedOutside(0, 0, -1, Desks::busy, (y, t) -> y.row(0, t, 0, 0, 0));
    });
    told("have one to three QUESTIONS (no two the same)", () -> {
      ChoiceDesk x = Desks.three();
      due(0, x.table(0, 2, -1, -1));
      due(1, x.table(0, 2, 0, -1));
      due(2, x.table(0, 2, 0, 1));
      refused(-1, Desks::three, y -> y.table(0, -1, -1, -1));
      refused(-1, Desks::three, y -> y.table(0, 1, 1, -1));
      refused(-1, Desks::three, y -> y.table(0, 1, 1, 2));
      refused(-1, Desks::three, y -> y.table(0, 1, 2, 1));
      refused(-1, Desks::three, y -> y.table(0, 2, 1, 1));
      refused(-1, Desks::three, y -> y.table(0, 1, 1, 1));
    });
    told("and ROWS (20 at most) of VALUES.", () -> {
      ChoiceDesk x = Desks.three();
      x.table(0, 0, -1, -1);
      x.table(0, 1, -1, -1);
      for (int i = 1; i <= 20; i++) due(i, x.row(0, 0, 2, 0, 0));
      due(-2, x.row(0, 0, 2, 0, 0));
      due(-2, x.row(0, 0, 0, 0, 0));
      due(1, x.row(0, 1, 1, 0, 0));
      refused(-2, Desks::fullOfRows, y -> y.row(0, 0, 0, 0, 0));
    });
    told("RULES of a BOOK are SAYINGS (16 at most, no two the same).", () -> {
      refused(-2, Desks::fullOfRules, x -> x.rule(0, 16));
      refused(-3, Desks::busy, x -> x.rule(0, 4));
      ChoiceDesk x = Desks.fullOfRules();
      due(16, x.count(0, 3));
      due(15, x.drop(0, 15));
      due(16, x.rule(0, 16));
      due(6, x.wholes(0));
      due(15, x.drop(0, 0));
      due(-3, x.rule(0, 16));
    });
  }

  private static void wholes() {
    told("WHOLES are all ways to give all QUESTIONS VALUES with which all RULES hold.", () -> {
      ChoiceDesk x = Desks.three();
      due(24, x.wholes(0));
      x.saying(0, 0, 0, 1);
      due(24, x.wholes(0));
      x.rule(0, 0);
      due(8, x.wholes(0));
      x.rule(0, x.saying(0, 7, 4, 10));
      due(2, x.wholes(0));
      x.rule(0, x.saying(0, 0, 0, 2));
      due(0, x.wholes(0));
    });
    told("(Of a BOOK without QUESTIONS: one, if all RULES hold.)", () -> {
      ChoiceDesk x = new ChoiceDesk();
      due(1, x.wholes(2));
      due(0, x.saying(2, 7, 0, 0));
      due(1, x.saying(2, 2, 0, 0));
      due(1, x.rule(2, 0));
      due(1, x.wholes(2));
      due(2, x.rule(2, 1));
      due(0, x.wholes(2));
      due(1, x.drop(2, 1));
      due(1, x.wholes(2));
    });
    told("ROWS and RULES, too, may come when there are ORDERS.", () -> {
      ChoiceDesk x = Desks.three();
      x.start(0);
      due(0, x.table(0, 1, -1, -1));
      due(0, x.saying(0, 8, 0, 0));
      due(1, x.rule(0, 0));
      due(0, x.state(0, 2));
      due(1, x.row(0, 0, 1, 0, 0));
      due(12, x.state(0, 2));
      due(1, x.value(0, 1));
      due(2, x.row(0, 0, 0, 0, 0));
      due(-2, x.value(0, 1));
      due(0, x.drop(0, 0));
      due(24, x.state(0, 2));
      for (int kind = 2; kind <= 6; kind++) rowsReachJoinedSayings(kind);
    });
  }

  /** The ways in which a is 0b1100 and b is told, or the other way round, joined by a kind. */
  private static int joined(int kind, int side, int told) {
    int a = side == 1 || kind == 2 ? told : 0b1100;
    int b = side == 1 ? 0b1100 : told;
    int[] ways = {15 - a, a & b, a | b, 15 - a | b, 15 - (a ^ b)};
    return ways[kind - 2];
  }

  /** A row that comes later changes all that is said of its table, with it before or behind. */
  private static void rowsReachJoinedSayings(int kind) {
    for (int side = 0; side < (kind == 2 ? 1 : 2); side++) {
      ChoiceDesk x = Desks.yeses(2);
      x.table(0, 1, -1, -1);
      x.saying(0, 0, 0, 1);
      x.saying(0, 8, 0, 0);
      due(2, side == 1 || kind == 2 ? x.saying(0, kind, 1, 0) : x.saying(0, kind, 0, 1));
      due(3, x.saying(0, 2, 2, 0));
      int before = waysOf(x, 2);
      x.row(0, 0, 1, 0, 0);
      int after = waysOf(x, 2);
      due(joined(kind, side, 0), before);
      due(joined(kind, side, 0b1010), after);
      due(15 - after, waysOf(x, 3));
    }
  }

  /** Layers of the graph of book 0, each, and all together. */
  private static void hasLayers(ChoiceDesk x, int... places) {
    int all = 0;
    for (int k = 0; k < places.length; k++) {
      due(places[k], x.size(0, k));
      all += places[k];
    }
    due(all, x.size(0, -1));
    due(-1, x.size(0, places.length));
  }

  /** Four YES, of which the first is like the third and the second like the fourth. */
  private static ChoiceDesk crossed() {
    ChoiceDesk x = Desks.yeses(4);
    for (int q = 0; q < 4; q++) x.saying(0, 0, q, 1);
    x.saying(0, 6, 0, 2);
    x.saying(0, 6, 1, 3);
    x.rule(0, 4);
    x.rule(0, 5);
    return x;
  }

  /**
   * Three MANY of 3 things bar each a value of the last two questions for every thing they lack, so
   * nearly every one of the 512 ways to begin has its own ways to go on.
   */
  private static ChoiceDesk thingsAskedFor() {
    ChoiceDesk x = new ChoiceDesk();
    for (int q = 0; q < 3; q++) x.question(0, q, 3, 303, 0);
    x.question(0, 3, 0, 6, 0);
    x.question(0, 4, 0, 5, 0);
    for (int i = 0; i < 9; i++) {
      int has = x.saying(0, 1, i / 3, i % 3);
      int is = i < 6 ? x.saying(0, 0, 3, i) : x.saying(0, 0, 4, i - 6);
      x.rule(0, x.saying(0, 5, is, has));
    }
    return x;
  }

  private static void graph() {
    told("THE TURN is an order of the QUESTIONS (as they come, at first).", () -> {
      ChoiceDesk x = Desks.eight();
      for (int q = 0; q < 8; q++) due(q, x.turn(0, q, q));
      for (int q = 0; q < 8; q++) due(q, x.turn(0, q, 0));
      for (int q = 0; q < 8; q++) due(7 - q, x.turn(0, q, 7 - q));
    });
    told("THE GRAPH has layers 0 to as many as there are QUESTIONS:", () -> {
      for (int n = 0; n <= 8; n++) {
        ChoiceDesk x = Desks.yeses(n);
        for (int k = 0; k <= n; k++) due(1, x.size(0, k));
        due(n + 1, x.size(0, -1));
        due(-1, x.size(0, n + 1));
      }
      ChoiceDesk x = new ChoiceDesk();
      for (int q = 0; q < 8; q++) {
        due(q + 1, x.size(0, -1));
        x.question(0, q, 0, 2, 0);
        due(1, x.size(0, q + 1));
      }
    });
    told("in layer k the PLACES are the different sets of ways to go on", () -> {
      hasLayers(crossed(), 1, 2, 4, 2, 1);
      ChoiceDesk x = Desks.three();
      x.rule(0, x.saying(0, 7, 5, 12));
      hasLayers(x, 1, 3, 3, 1);
      hasLayers(thingsAskedFor(), 1, 8, 63, 504, 8, 1);
    });
    told("from a way to give the first k QUESTIONS by THE TURN VALUES to a WHOLE,", () -> {
      ChoiceDesk x = crossed();
      x.turn(0, 2, 1);
      hasLayers(x, 1, 2, 1, 2, 1);
      x.turn(0, 3, 0);
      hasLayers(x, 1, 2, 4, 2, 1);
    });
    told("without the empty set.", () -> {
      ChoiceDesk x = Desks.three();
      x.table(0, 0, 1, -1);
      x.row(0, 0, 0, 0, 0);
      x.row(0, 0, 1, 1, 0);
      x.rule(0, x.saying(0, 8, 0, 0));
      hasLayers(x, 1, 2, 1, 1);
      x.rule(0, x.saying(0, 0, 0, 1));
      hasLayers(x, 1, 1, 1, 1);
    });
    told("(Layer 0 has one PLACE, or none, if there is no WHOLE.)", () -> {
      due(1, Desks.three().size(0, 0));
      due(1, crossed().size(0, 0));
      due(1, new ChoiceDesk().size(0, 0));
      hasLayers(Desks.deadEnd(), 0, 0, 0, 0);
      ChoiceDesk x = new ChoiceDesk();
      Desks.breakAll(x, 0);
      hasLayers(x, 0);
    });
  }

  private static void orders() {
    told("ORDERS 0 .. 11, as they come, each of a BOOK,", () -> {
      ChoiceDesk x = Desks.three();
      for (int o = 0; o < 12; o++) due(o, o % 3 == 2 ? x.carry(o - 1, o % 4) : x.start(o % 4));
      for (int o = 0; o < 12; o++) due(o % 4, x.state(o, 3));
      for (AskBy call : Calls.BY_ORDER) {
        refusedOutside(0, 1, -1, Desks::busy, call);
        refusedOutside(0, 11, -1, Desks::fullOfOrders, call);
        refused(-1, Desks::three, y -> call.of(y, 0));
      }
      ChoiceDesk two = Desks.mostWays();
      for (int q = 0; q < 6; q++) two.question(1, q, 1, 2, 0);
      for (int o = 0; o < 2; o++) {
        two.start(o);
        two.price(o, 0, 0, 7 - 14 * o);
        two.wish(o, 0, 1, 5 + o);
      }
      for (int q = 0; q < 6; q++) two.rule(1, two.saying(1, 0, q, 0));
      for (int i = 0; i < 4; i++) {
        due(i % 2 == 0 ? 20000 : 1, two.state(i % 2, 2));
        due(i % 2 == 0 ? 0 : 6, two.nearest(i % 2));
        due(i % 2 == 0 ? 1 : 0, two.near(i % 2, 0));
        due(i % 2 == 0 ? 7 : -7, two.limit(i % 2, true));
        due(i % 2 == 0 ? 0 : -7, two.limit(i % 2, false));
      }
      for (AskBy call : Calls.BY_ORDER_THAT_THROW) {
        refusedOutside(0, 1, ARGUMENT, Desks::busy, call);
        refusedOutside(0, 11, ARGUMENT, Desks::fullOfOrders, call);
        refused(ARGUMENT, Desks::three, y -> call.of(y, 0));
      }
    });
    told("have CHOICES: a VALUE for some QUESTIONS, one behind the other.", () -> {
      ChoiceDesk x = Desks.three();
      x.start(0);
      x.start(0);
      due(1, x.choose(0, 2, 3));
      due(2, x.choose(0, 0, 1));
      due(1, x.choose(1, 1, 0));
      due(2, x.choice(0, 0));
      due(0, x.choice(0, 1));
      due(-1, x.choice(0, 2));
      due(5, x.state(0, 0));
      due(2, x.state(1, 0));
      due(3, x.value(0, 2));
      due(1, x.value(0, 0));
      due(-2, x.value(0, 1));
    });
    told("A WHOLE FITS an ORDER if it has all its CHOICES.", () -> {
      ChoiceDesk x = Desks.three();
      x.start(0);
      int[] fit = {24, 8, 2, 1};
      for (int i = 0; i < 4; i++) {
        due(fit[i], x.state(0, 2));
        x.choose(0, i == 1 ? 2 : i == 2 ? 1 : 0, 1);
      }
      due(1, x.state(0, 2));
    });
    told("A VALUE MAY be of a QUESTION in an ORDER (whatever its own CHOICE there)", () -> {
      ChoiceDesk x = Desks.three();
      x.start(0);
      x.choose(0, 0, 2);
      for (int v = 0; v < 3; v++) due(1, x.may(0, 0, v));
      due(1, x.choose(0, 0, 0));
      due(-2, x.why(0, 0, 2));
    });
    told("if a WHOLE that has all CHOICES of other QUESTIONS has it.", () -> {
      ChoiceDesk x = Desks.three();
      x.rule(0, x.saying(0, 7, 5, 12));
      x.start(0);
      int[] first = {1, 1, 1, 0};
      for (int v = 0; v < 4; v++) due(first[v], x.may(0, 2, v));
      x.choose(0, 0, 1);
      int[] then = {1, 1, 0, 0};
      for (int v = 0; v < 4; v++) due(then[v], x.may(0, 2, v));
      for (int v = 0; v < 3; v++) due(1, x.may(0, 0, v));
    });
    told("A QUESTION without CHOICE is BROUGHT, if just one VALUE MAY be.", () -> {
      ChoiceDesk x = Desks.three();
      x.rule(0, x.saying(0, 7, 5, 12));
      x.start(0);
      due(0, x.state(0, 1));
      x.choose(0, 0, 1);
      due(0, x.state(0, 1));
      due(-2, x.value(0, 2));
      x.choose(0, 0, 2);
      due(4, x.state(0, 1));
      due(0, x.value(0, 2));
      x.choose(0, 2, 0);
      due(0, x.state(0, 1));
      x.back(0, 2);
      Desks.breakAll(x, 0);
      due(0, x.state(0, 1));
      due(-2, x.value(0, 2));
      ChoiceDesk single = new ChoiceDesk();
      single.question(0, 1, 3, 333, 0);
      single.start(0);
      due(1, single.state(0, 1));
      due(7, single.value(0, 0));
    });
  }

  private static void deadEnds() {
    told("An ORDER is at a DEAD END if no WHOLE FITS it", () -> {
      refused(-4, Desks::deadEnd, x -> x.fill(0));
      refused(-4, Desks::deadEnd, x -> x.nearest(0));
      refused(-4, Desks::deadEnd, x -> x.near(0, 0));
      refused(-4, Desks::deadEnd, x -> x.fewest(0));
      refused(-4, Desks::deadEnd, x -> x.keep(0, 3, 0, 0));
      refused(STATE, Desks::deadEnd, x -> x.limit(0, false));
      refused(STATE, Desks::deadEnd, x -> x.limit(0, true));
      refused(STATE, Desks::deadEnd, x -> x.cost(0));
      due(0, Desks.deadEnd().state(0, 2));
      ChoiceDesk x = Desks.three();
      x.start(0);
      x.start(0);
      x.choose(0, 0, 2);
      x.rule(0, x.saying(0, 7, 1, 1));
      due(-4, x.nearest(0));
      due(0, x.nearest(1));
    });
    told("(RULES, ROWS that came later can do that).", () -> {
      ChoiceDesk x = Desks.three();
      x.table(0, 0, -1, -1);
      x.saying(0, 8, 0, 0);
      x.saying(0, 2, 0, 0);
      x.start(0);
      x.choose(0, 0, 2);
      x.rule(0, 1);
      due(0, x.nearest(0));
      x.row(0, 0, 2, 0, 0);
      due(-4, x.nearest(0));
      due(2, x.value(0, 0));
      due(1, x.state(0, 0));
      due(1, x.choose(0, 0, 1));
      due(0, x.nearest(0));
      x.rule(0, x.saying(0, 0, 0, 0));
      due(-4, x.nearest(0));
      due(1, x.back(0, 0));
      due(0, x.nearest(0));
    });
  }

  /** Eight YES; the last bars each of the sets, when all of the set are 1. */
  private static ChoiceDesk barredBy(int... sets) {
    ChoiceDesk x = Desks.yeses(8);
    int last = x.saying(0, 0, 7, 0);
    for (int set : sets) {
      int least = x.saying(0, 7, set, Integer.bitCount(set) - 1);
      x.rule(0, x.saying(0, 4, least, last));
    }
    x.start(0);
    for (int q = 6; q >= 0; q--) x.choose(0, q, 1);
    return x;
  }

  private static void reasons() {
    told("WHY a VALUE can't be of a QUESTION in an ORDER: the set of its CHOICES of other QUESTIONS,", () -> {
      due(0b1010, barredBy(0b1010).why(0, 7, 1));
      due(0b1111111, barredBy(0b1111111).why(0, 7, 1));
      ChoiceDesk first = Desks.yeses(8);
      first.rule(0, first.saying(0, 4, first.saying(0, 0, 0, 1), first.saying(0, 0, 1, 0)));
      first.start(0);
      first.choose(0, 1, 1);
      first.choose(0, 2, 1);
      due(0b10, first.why(0, 0, 0));
      ChoiceDesk x = barredBy(0b1010);
      x.choose(0, 7, 0);
      due(0b1010, x.why(0, 7, 1));
      x.back(0, 1);
      x.choose(0, 7, 1);
      due(0b10001000, x.why(0, 1, 1));
    });
    told("as few as can be,", () -> {
      due(0b1000000, barredBy(0b11, 0b111, 0b1000000).why(0, 7, 1));
      due(0b1100000, barredBy(0b111, 0b1100000, 0b11011).why(0, 7, 1));
      due(0b1000, barredBy(0b1111, 0b1000).why(0, 7, 1));
    });
    told("that no WHOLE has with that VALUE;", () -> {
      ChoiceDesk x = barredBy(0b11);
      due(-2, x.why(0, 7, 0));
      x.rule(0, x.saying(0, 0, 7, 0));
      due(0, x.why(0, 7, 1));
      due(0, Desks.deadEnd().why(0, 0, 2));
      due(0, Desks.deadEnd().why(0, 1, 0));
      ChoiceDesk lone = Desks.yeses(8);
      lone.start(0);
      lone.choose(0, 3, 1);
      lone.choose(0, 0, 1);
      lone.rule(0, lone.saying(0, 7, 255, 0));
      due(1, lone.why(0, 7, 0));
      due(0, lone.why(0, 7, 1));
      due(8, lone.why(0, 0, 0));
      due(0, lone.why(0, 0, 1));
    });
    told("of these with the least number as bits (QUESTION q: bit q).", () -> {
      due(1, barredBy(0b1000000, 1, 0b1000).why(0, 7, 1));
      due(0b110, barredBy(0b1000001, 0b110, 0b1001).why(0, 7, 1));
      due(0b11, barredBy(0b110, 0b101, 0b11).why(0, 7, 1));
    });
  }

  private static void prices() {
    told("PRICES of a BOOK: of VALUES (of each QUESTION and VALUE, 0 at first);", () -> {
      ChoiceDesk x = Desks.eight();
      for (int q = 0; q < 8; q++) {
        for (int v = 0; v < (q < 7 ? 2 : 8); v++) due(0, x.price(0, q, v, 0));
      }
      for (int q = 0; q < 8; q++) due(1, x.price(0, q, 1, 1 << q));
      due(1, x.price(0, 7, 7, 5000));
      x.start(0);
      due(5127, x.limit(1, true));
      due(0, x.limit(1, false));
      due(1, x.price(0, 0, 0, 1));
      due(1, x.limit(1, false));
    });
    told("PAIRS (20 at most): two VALUES of two QUESTIONS and a price;", () -> {
      refused(-2, Desks::fullOfPairs, x -> x.pair(0, 1, 0, 3));
      ChoiceDesk x = Desks.three();
      x.pair(0, 8 * 2 + 0, 31, 100);
      x.start(0);
      due(100, x.limit(0, true));
      x.choose(0, 2, 3);
      due(100, x.limit(0, true));
      x.choose(0, 0, 0);
      due(0, x.limit(0, true));
      x.choose(0, 0, 1);
      due(100, x.limit(0, false));
      x.choose(0, 2, 1);
      due(0, x.limit(0, true));
    });
    told("STEPS (10 at most): if the WORTHS of a set of QUESTIONS come to n or more a price is added.", () -> {
      refused(-2, Desks::fullOfSteps, x -> x.step(0, 1, 2, 3));
      ChoiceDesk x = Desks.three();
      x.step(0, 5, 13, 100);
      x.start(0);
      for (int v = 0; v < 4; v++) {
        x.choose(0, 2, v);
        x.choose(0, 0, 1);
        due(v >= 2 ? 100 : 0, x.limit(0, true));
        due(v >= 2 ? 100 : 0, x.limit(0, false));
      }
    });
    told("THE PRICE of a WHOLE is the sum of all of it that it has (longs).", () -> {
      for (int sign = -1; sign <= 1; sign += 2) {
        ChoiceDesk y = Desks.eight();
        for (int q = 0; q < 8; q++) y.price(0, q, 1, sign * 1000000);
        for (int i = 0; i < 20; i++) y.pair(0, 8 * (i % 7) + 7, 11, sign * 1000000);
        for (int i = 0; i < 10; i++) y.step(0, 255, 8, sign * 1000000);
        y.start(0);
        for (int q = 0; q < 8; q++) y.choose(1, q, 1);
        due(sign * 38000000L, y.cost(1));
        y.choose(1, 7, 2);
        due(sign * 17000000L, y.cost(1));
        y.choose(1, 0, 0);
        due(sign * 6000000L, y.cost(1));
      }
      ChoiceDesk x = Desks.yeses(6);
      x.start(0);
      due(0, x.limit(0, true));
      x.pair(0, 1, 11, 10);
      due(10, x.limit(0, true));
      x.step(0, 63, 6, 200);
      due(210, x.limit(0, true));
      x.price(0, 5, 1, 3000);
      due(3210, x.limit(0, true));
      x.pair(0, 1, 0, -10);
      due(-10, x.limit(0, false));
      for (int q = 0; q < 6; q++) x.choose(0, q, 1);
      due(3210, x.cost(0));
      for (int q = 0; q < 6; q++) x.choose(0, q, 0);
      due(-10, x.cost(0));
    });
  }

  private static void wishes() {
    told("WISHES of an ORDER: for each QUESTION at most one: a VALUE and a weight (1 .. 1000); none at first.", () -> {
      refusedOutside(0, 1000, -1, Desks::busy, (x, weight) -> x.wish(0, 0, 1, weight));
      ChoiceDesk x = Desks.three();
      x.start(0);
      x.start(0);
      due(0, x.fewest(0));
      x.choose(0, 0, 1);
      due(1, x.wish(0, 0, 2, 1));
      due(1, x.nearest(0));
      due(1, x.wish(0, 0, 0, 1000));
      due(1000, x.nearest(0));
      due(1, x.wish(0, 0, 1, 999));
      due(0, x.nearest(0));
      due(2, x.wish(0, 1, 1, 1));
      due(1, x.wish(1, 1, 1, 1));
    });
    told("NEAREST: the WHOLE that FITS it, of which the weights of WISHES that it hasn't come to least;", () -> {
      ChoiceDesk x = Desks.three();
      x.rule(0, x.saying(0, 7, 5, 12));
      x.start(0);
      x.wish(0, 0, 2, 10);
      x.wish(0, 2, 2, 11);
      due(10, x.nearest(0));
      due(2, x.near(0, 2));
      due(0, x.near(0, 0));
      x.wish(0, 0, 2, 12);
      due(11, x.nearest(0));
      due(2, x.near(0, 0));
      x.choose(0, 0, 1);
      due(23, x.nearest(0));
      due(1, x.near(0, 0));
      due(0, x.near(0, 2));
    });
    told("of these the one with the least VALUE of QUESTION 0, of these of QUESTION 1, and so on.", () -> {
      ChoiceDesk x = Desks.yeses(8);
      x.rule(0, x.saying(0, 2, x.saying(0, 7, 255, 1), 0));
      x.start(0);
      for (int q = 0; q < 8; q++) due(q >= 6 ? 1 : 0, x.near(0, q));
      for (int q = 0; q < 8; q++) x.turn(0, q, 0);
      for (int q = 0; q < 8; q++) due(q >= 6 ? 1 : 0, x.near(0, q));
      for (int q = 0; q < 8; q++) x.wish(0, q, 1, 5);
      x.rule(0, x.saying(0, 7, 255, 2));
      due(30, x.nearest(0));
      for (int q = 0; q < 8; q++) due(q >= 6 ? 1 : 0, x.near(0, q));
      ChoiceDesk y = new ChoiceDesk();
      y.question(0, 1, 3, 213, 0);
      y.start(0);
      due(1, y.near(0, 0));
    });
  }

  private static void shelves() {
    told("SHELVES 0 .. 7 each hold nothing (at first), a QUESTION, a ROW of shorts or longs.", () -> {
      ChoiceDesk x = Desks.three();
      for (int d = 0; d < 8; d++) {
        int shelf = d;
        due(-11, x.toss(d));
        due(STATE, answer(x, y -> y.weight(shelf)));
        due(STATE, answer(x, y -> y.element(shelf, 0)));
        due(0, x.keep(d, 1, 0, d % 3));
      }
      for (int d = 0; d < 8; d++) due(d % 3 == 0 ? 13 : 24, x.weight(d));
      for (int d = 0; d < 8; d++) due(0, x.make(d, 3 + d % 2, d + 1));
      for (int d = 0; d < 8; d++) {
        int shelf = d;
        due(-12, x.toss(d));
        due(0, x.element(d, d));
        due(STATE, answer(x, y -> y.element(shelf, shelf + 1)));
      }
      for (AskBy call : Calls.BY_SHELF) refusedOutside(0, 7, -1, Desks::busy, call);
      for (AskBy call : Calls.BY_SHELF_THAT_THROW) refusedOutside(0, 7, ARGUMENT, Desks::busy, call);
    });
    told("Their REFUSALS: -11 nothing is held where something is wanted;", () -> {
      refused(-11, Desks::busy, x -> x.toss(7));
      refused(-11, Desks::busy, x -> x.copy(7, 0, 1, 0, 1));
      refused(-11, Desks::busy, x -> x.copy(1, 0, 7, 0, 1));
      due(0, Desks.busy().keep(7, 0, 0, 0));
    });
    told("-12 it is of another kind;", () -> {
      refused(-12, Desks::busy, x -> x.toss(1));
      refused(-12, Desks::busy, x -> x.toss(2));
      refused(-12, Desks::busy, x -> x.copy(1, 0, 2, 0, 1));
      refused(-12, Desks::busy, x -> x.copy(0, 0, 1, 0, 1));
    });
    told("-13 a place that it doesn't have;", () -> {
      refused(-13, Desks::busy, x -> x.copy(1, 4, 1, 0, 1));
      refused(-13, Desks::busy, x -> x.copy(1, 0, 1, 4, 1));
      refused(-13, Desks::busy, x -> x.copy(1, -1, 1, 0, 1));
    });
    told("-14 a size below 0;", () -> {
      refused(-14, Desks::busy, x -> x.make(1, 3, -1));
      refused(-14, Desks::busy, x -> x.make(1, 4, LEAST));
    });
    told("-15 a FAILURE that is none.", () -> {
      refused(-15, Desks::busy, x -> x.toss(3));
      due(1, Desks.busy().toss(0));
    });
  }

  private static ChoiceDesk fullAndSaid() {
    ChoiceDesk x = Desks.yeses(8);
    x.saying(0, 7, 0, 0);
    return x;
  }

  private static ChoiceDesk mostWaysOrdered() {
    ChoiceDesk x = Desks.mostWays();
    x.start(0);
    return x;
  }

  private static void orderOfRefusals() {
    told("Answers of several refusals are the first one here:"
        + " -1 no such thing, a number out of range, or not as told;", () -> {
      refused(-1, () -> Desks.yeses(8), x -> x.question(0, 7, 1, 2, 0));
      refused(-1, () -> Desks.yeses(8), x -> x.question(0, 8, 1, 3, 0));
      refused(-1, Desks::mostWays, x -> x.question(0, 5, 1, 2, 0));
      refused(-1, Desks::busy, x -> x.question(0, 50, 1, 2, 0));
      refused(-1, Desks::fullOfSayings, x -> x.saying(0, 9, 0, 0));
      refused(-1, Desks::fullOfTables, x -> x.table(0, 3, -1, -1));
      refused(-1, Desks::fullOfRows, x -> x.row(0, 0, 3, 0, 0));
      refused(-1, Desks::fullOfRules, x -> x.rule(0, 17));
      refused(-1, Desks::fullOfOrders, x -> x.start(4));
      refused(-1, Desks::fullOfOrders, x -> x.carry(0, 4));
      refused(-1, Desks::fullOfOrders, x -> x.carry(12, 0));
      refused(-1, Desks::fullOfPairs, x -> x.pair(0, 1, 0, 1000001));
      refused(-1, Desks::fullOfPairs, x -> x.pair(0, 0, 0, 1));
      refused(-1, Desks::fullOfSteps, x -> x.step(0, 8, 0, 1));
      refused(-1, Desks::fullOfSteps, x -> x.step(0, 1, 0, 1000001));
      refused(-1, Desks::deadEnd, x -> x.choose(0, 0, 3));
      refused(-1, Desks::deadEnd, x -> x.near(0, 3));
      refused(-1, Desks::deadEnd, x -> x.keep(8, 3, 0, 0));
      refused(-1, Desks::busy, x -> x.make(8, 3, -1));
      refused(-1, Desks::busy, x -> x.make(0, 2, -1));
      refused(-1, Desks::busy, x -> x.copy(7, 0, 8, 0, 1));
      refused(-1, Desks::busy, x -> x.copy(8, 0, 0, -1, -1));
    });
    told("-2, -3, -4, -11 to -15 as told.", () -> {
      refused(-2, TermSentences::fullAndSaid, x -> x.question(0, 8, 1, 2, 0));
      refused(-2, TermSentences::mostWaysOrdered, x -> x.question(0, 8, 1, 2, 0));
      refused(-3, TermSentences::mostWaysOrdered, x -> x.question(0, 8, 0, 1, 0));
      refused(-2, Desks::fullOfRules, x -> x.rule(0, 3));
      refused(-11, Desks::busy, x -> x.copy(0, 0, 7, 0, 1));
      refused(-11, Desks::busy, x -> x.copy(7, 0, 0, 0, 1));
      refused(-11, Desks::busy, x -> x.copy(7, -1, 1, 0, -1));
      refused(-12, Desks::busy, x -> x.copy(0, -1, 1, 0, 1));
      refused(-12, Desks::busy, x -> x.copy(1, 9, 2, 9, 9));
    });
  }

  private static void refusalsChangeNothing() {
    told("A refused call changes nothing.", () -> {
      refused(-3, Desks::busy, x -> x.question(0, 99, 1, 2, 0));
      refused(-3, Desks::busy, x -> x.choose(0, 1, 0));
      refused(-3, Desks::busy, x -> x.choose(0, 3, 2));
      refused(-3, Desks::busy, x -> x.choose(0, 2, 3));
      refused(-2, Desks::busy, x -> x.back(0, 1));
      refused(-2, Desks::busy, x -> x.value(0, 3));
      refused(-2, Desks::busy, x -> x.why(0, 0, 2));
      refused(-1, Desks::busy, x -> x.drop(0, 2));
      refused(-1, Desks::busy, x -> x.needless(0, 2));
      refused(-1, Desks::busy, x -> x.turn(0, 0, 4));
      refused(-1, Desks::busy, x -> x.price(0, 0, 1, 1000001));
      refused(-1, Desks::busy, x -> x.wish(0, 1, 0, 1001));
      refused(-1, Desks::busy, x -> x.keep(0, 2, 0, 0));
      refused(-1, Desks::busy, x -> x.make(0, 3, 61));
      refused(STATE, Desks::busy, x -> x.cost(0));
      refused(STATE, Desks::busy, x -> x.element(0, 0));
      refused(STATE, Desks::busy, x -> x.weight(1));
      ChoiceDesk x = new ChoiceDesk();
      due(-1, x.question(0, 5, 0, 7, 0));
      due(0, x.question(0, 5, 0, 6, 0));
      ChoiceDesk full = Desks.mostWays();
      due(-2, full.question(0, 6, 1, 2, 0));
      due(6, full.question(0, 6, 0, 1, 0));
      looksTellChanges();
    });
  }

  private static void looksTellChanges() {
    Ask[] calls = {
      x -> x.question(2, 9, 0, 1, 0),
      x -> x.saying(0, 7, 0, 0),
      x -> x.table(0, 0, -1, -1),
      x -> x.row(0, 0, 2, 0, 0),
      x -> x.rule(0, 2),
      x -> x.drop(0, 0),
      x -> x.turn(0, 0, 0),
      x -> x.start(0),
      x -> x.choose(0, 3, 1),
      x -> x.choose(0, 0, 2),
      x -> x.back(0, 2),
      x -> x.standard(0, 1, 1),
      x -> x.fill(0),
      x -> x.wish(0, 0, 2, 1),
      x -> x.wish(0, 1, 0, 8),
      x -> x.price(0, 2, 2, 1),
      x -> x.pair(0, 2, 10, 1000000),
      x -> x.step(0, 5, 13, 1),
      x -> x.carry(0, 0),
      x -> x.keep(0, 0, 0, 0),
      x -> x.keep(4, 1, 0, 3),
      x -> x.keep(0, 3, 0, 0),
      x -> x.keep(1, 4, 0, 1),
      x -> x.make(4, 3, 0),
      x -> x.make(4, 4, 0),
      x -> x.copy(1, 0, 1, 1, 1),
      x -> x.copy(2, 1, 2, 0, 1),
    };
    for (Ask call : calls) changes(Desks::busy, call);
  }
}

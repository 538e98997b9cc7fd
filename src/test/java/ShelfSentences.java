/** The sentences of promises 28 to 41, one by one. */
final class ShelfSentences extends Sentences {
  private ShelfSentences() {
  }

  static void all() {
    price();
    pair();
    pairRefusals();
    step();
    cost();
    limit();
    carry();
    lost();
    count();
    keep();
    keepRefusals();
    make();
    element();
    copy();
    copyRefusals();
    weight();
    toss();
  }

  /** The row on the shelf has these elements. */
  private static void holds(ChoiceDesk x, int d, long... row) {
    for (int i = 0; i < row.length; i++) due(row[i], x.element(d, i));
    due(STATE, answer(x, y -> y.element(d, row.length)));
  }

  private static void price() {
    section("Promise 28");
    told("The price of a VALUE is v (-1000000 .. 1000000):", () -> {
      refusedOutside(-1000000, 1000000, -1, Desks::busy, (x, v) -> x.price(0, 0, 1, v));
      for (int v : new int[] {-1000000, -1, 1, 1000000}) {
        ChoiceDesk x = Desks.three();
        due(1, x.price(0, 2, 3, v));
        x.start(0);
        x.choose(0, 2, 3);
        due(v, x.limit(0, true));
        due(v, x.limit(0, false));
        x.choose(0, 2, 2);
        due(0, x.limit(0, true));
        x.keep(0, 4, 0, 2);
        due(v, x.element(0, 3));
      }
    });
    told("1 if it is another than before, else 0.", () -> {
      ChoiceDesk x = Desks.busy();
      due(0, x.price(0, 0, 1, 500));
      due(1, x.price(0, 0, 1, 499));
      due(0, x.price(0, 0, 1, 499));
      due(1, x.price(0, 0, 1, -499));
      due(1, x.price(0, 0, 1, 0));
      due(0, x.price(0, 0, 0, 0));
      due(0, x.price(0, 3, 5, -70));
      due(0, x.price(0, 3, 6, 0));
      due(1, x.price(0, 3, 6, -70));
      due(1, x.price(1, 0, 1, 500));
    });
    told("-1.", () -> {
      refusedOutside(0, 3, -1, Desks::busy, (x, b) -> x.price(b, 0, 0, 1));
      refusedOutside(0, 3, -1, Desks::busy, (x, q) -> x.price(0, q, 1, 1));
      refusedOutside(0, 2, -1, Desks::busy, (x, v) -> x.price(0, 0, v, 1));
      refusedOutside(0, 3, -1, Desks::busy, (x, v) -> x.price(0, 2, v, 1));
      refusedOutside(1, 6, -1, Desks::busy, (x, v) -> x.price(0, 3, v, 1));
    });
  }

  /** A desk of eight questions, the last of which has the values 0 .. 7. */
  private static ChoiceDesk eightWithPair(int questions, int values) {
    ChoiceDesk x = Desks.eight();
    due(1, x.pair(0, questions, values, 50));
    x.start(0);
    return x;
  }

  private static void pair() {
    section("Promise 29");
    told("A PAIR: two QUESTIONS (not one),", () -> {
      for (int q = 0; q < 8; q++) {
        int one = q;
        refused(-1, Desks::eight, x -> x.pair(0, 8 * one + one, 0, 1));
        refused(-1, Desks::eight, x -> x.pair(0, 8 * one + one, 11, 1));
        if (q > 0) due(1, Desks.eight().pair(0, 8 * one, 0, 1));
      }
    });
    told("as 8 x + y,", () -> {
      ChoiceDesk x = eightWithPair(8 * 7 + 2, 51);
      x.choose(1, 2, 1);
      due(50, x.limit(1, true));
      x.choose(1, 7, 5);
      due(50, x.limit(1, false));
      x.choose(1, 2, 0);
      due(0, x.limit(1, true));
      refusedOutside(0, 63, -1, Desks::eight, (y, questions) -> y.pair(0, questions, 10, 1));
      for (int questions : new int[] {65, 72, 129, 257, 65537, -7, -8, -63}) {
        refused(-1, Desks::eight, y -> y.pair(0, questions, 0, 1));
      }
      for (int questions : new int[] {3, 4, 7, 11, 19, 24, 25, 32, 56}) {
        refused(-1, Desks::three, y -> y.pair(0, questions, 0, 1));
      }
      for (int questions : new int[] {1, 2, 8, 10, 16, 17}) due(1, Desks.three().pair(0, questions, 0, 1));
    });
    told("VALUES as 10 a + b,", () -> {
      ChoiceDesk x = eightWithPair(2 * 8 + 7, 15);
      x.choose(1, 7, 5);
      due(50, x.limit(1, true));
      x.choose(1, 2, 1);
      due(50, x.limit(1, false));
      x.choose(1, 7, 1);
      due(0, x.limit(1, true));
      for (int a = 0; a < 8; a++) {
        for (int b = 0; b < 8; b++) {
          ChoiceDesk many = new ChoiceDesk();
          many.question(0, 1, 3, 303, 0);
          many.question(0, 2, 3, 303, 0);
          due(1, many.pair(0, 1, 10 * a + b, 5));
          many.start(0);
          many.choose(0, 0, a);
          many.choose(0, 1, b);
          due(5, many.cost(0));
          many.choose(0, 0, 7 - a);
          due(0, many.cost(0));
        }
      }
      for (int values : new int[] {-1, 8, 9, 18, 20, 27, 71, 100, LEAST, MOST}) {
        refused(-1, Desks::eight, y -> y.pair(0, 2 * 8 + 7, values, 1));
      }
      for (int values : new int[] {-1, 2, 9, 12, 30, 31, 100, LEAST, MOST}) {
        refused(-1, Desks::three, y -> y.pair(0, 1, values, 1));
      }
      for (int values : new int[] {0, 1, 10, 11, 20, 21}) due(1, Desks.three().pair(0, 1, values, 1));
    });
    told("and a price (as above):", () -> {
      refusedOutside(-1000000, 1000000, -1, Desks::busy, (x, v) -> x.pair(0, 1, 0, v));
      for (int v : new int[] {-1000000, 0, 1000000}) {
        ChoiceDesk x = Desks.three();
        due(1, x.pair(0, 1, 21, v));
        x.start(0);
        x.choose(0, 0, 2);
        x.choose(0, 1, 1);
        due(v, x.limit(0, true));
        due(v, x.limit(0, false));
      }
    });
    told("how many there are.", () -> {
      ChoiceDesk x = Desks.three();
      for (int i = 1; i <= 20; i++) {
        due(i, x.pair(0, 1, 21, i));
        due(i, x.count(0, 4));
      }
      x.start(0);
      due(210, x.limit(0, true));
      due(2, Desks.busy().pair(0, 1, 21, 9000));
      due(1, Desks.busy().pair(1, 1, 1, 9000));
    });
  }

  private static void pairRefusals() {
    told("-1;", () -> {
      refusedOutside(0, 3, -1, Desks::busy, (x, b) -> x.pair(b, 1, 0, 1));
      refused(-1, Desks::busy, x -> x.pair(2, 1, 0, 1));
      refused(-1, Desks::busy, x -> x.pair(0, 3, 0, 1));
      refused(-1, Desks::busy, x -> x.pair(0, 3, 7, 1));
      refused(-1, Desks::busy, x -> x.pair(0, 24, 1, 1));
      due(2, Desks.busy().pair(0, 24, 10, 1));
      due(2, Desks.busy().pair(0, 3, 26, 1));
    });
    told("-2: there are 20.", () -> {
      refused(-2, Desks::fullOfPairs, x -> x.pair(0, 1, 0, 3));
      refused(-2, Desks::fullOfPairs, x -> x.pair(0, 8, 0, 0));
      ChoiceDesk x = Desks.fullOfPairs();
      x.start(0);
      due(60, x.limit(0, true));
    });
  }

  private static void step() {
    section("Promise 30");
    told("A STEP: a set of QUESTIONS, n, and a price:", () -> {
      refusedOutside(0, 7, -1, Desks::three, (x, set) -> x.step(0, set, 1, 1));
      refusedOutside(0, 255, -1, Desks::eight, (x, set) -> x.step(0, set, 1, 1));
      refusedOutside(0, 0, -1, Desks::three, (x, set) -> x.step(1, set, 1, 1));
      refusedOutside(-1000000, 1000000, -1, Desks::three, (x, v) -> x.step(0, 1, 1, v));
      for (int v : new int[] {-1000000, 1000000}) {
        ChoiceDesk x = Desks.three();
        due(1, x.step(0, 5, 15, v));
        x.start(0);
        x.choose(0, 2, 3);
        x.choose(0, 0, 2);
        due(v, x.limit(0, true));
        due(v, x.limit(0, false));
        x.choose(0, 0, 1);
        due(0, x.limit(0, true));
        due(0, x.limit(0, false));
      }
      ChoiceDesk ends = Desks.three();
      ends.step(0, 7, LEAST, 1);
      ends.step(0, 7, MOST, 20);
      ends.step(0, 0, 0, 300);
      ends.step(0, 0, 1, 4000);
      ends.start(0);
      due(301, ends.limit(0, true));
      due(301, ends.limit(0, false));
    });
    told("how many there are.", () -> {
      ChoiceDesk x = Desks.three();
      for (int i = 1; i <= 10; i++) {
        due(i, x.step(0, 1, 2, i));
        due(i, x.count(0, 5));
      }
      x.start(0);
      due(55, x.limit(0, true));
      due(2, Desks.busy().step(0, 1, 2, 5));
      due(1, Desks.busy().step(1, 1, 2, 5));
    });
    told("-1;", () -> {
      refusedOutside(0, 3, -1, Desks::busy, (x, b) -> x.step(b, 1, 0, 1));
      refusedOutside(0, 15, -1, Desks::busy, (x, set) -> x.step(0, set, 0, 1));
      refusedOutside(-1000000, 1000000, -1, Desks::busy, (x, v) -> x.step(0, 1, 0, v));
    });
    told("-2: there are 10.", () -> {
      refused(-2, Desks::fullOfSteps, x -> x.step(0, 1, 2, 3));
      refused(-2, Desks::fullOfSteps, x -> x.step(0, 0, 0, 0));
      ChoiceDesk x = Desks.fullOfSteps();
      x.start(0);
      due(30, x.limit(0, true));
    });
  }

  private static void cost() {
    section("Promise 31");
    told("THE PRICE of the one WHOLE that FITS an ORDER.", () -> {
      ChoiceDesk x = Desks.busy();
      x.choose(0, 3, 5);
      due(9000 + 100000 - 70, x.cost(0));
      x.choose(0, 3, 1);
      due(9000 + 100000, x.cost(0));
      x.choose(0, 2, 0);
      due(9000 + 100000, x.cost(0));
      x.start(2);
      due(0, x.cost(2));
      x.step(2, 0, 0, -8);
      due(-8, x.cost(2));
    });
    told("IllegalArgumentException: no such ORDER;", () -> {
      refusedOutside(0, 1, ARGUMENT, Desks::busy, (x, o) -> x.cost(o));
      refusedOutside(0, 11, ARGUMENT, Desks::fullOfOrders, (x, o) -> x.cost(o));
      refused(ARGUMENT, Desks::empty, x -> x.cost(0));
    });
    told("IllegalStateException: not just one FITS.", () -> {
      refused(STATE, Desks::busy, x -> x.cost(0));
      refused(STATE, Desks::busy, x -> x.cost(1));
      refused(STATE, Desks::deadEnd, x -> x.cost(0));
      ChoiceDesk x = Desks.yeses(1);
      x.start(0);
      due(STATE, answer(x, y -> y.cost(0)));
      x.choose(0, 0, 1);
      due(0, answer(x, y -> y.cost(0)));
      Desks.breakAll(x, 0);
      due(STATE, answer(x, y -> y.cost(0)));
    });
  }

  private static void limit() {
    section("Promise 32");
    told("The least (most false), the greatest PRICE of WHOLES that FIT an ORDER.", () -> {
      ChoiceDesk x = Desks.three();
      x.price(0, 0, 0, 10);
      x.price(0, 0, 1, -20);
      x.price(0, 0, 2, 400);
      x.price(0, 2, 3, -7);
      x.start(0);
      due(-27, x.limit(0, false));
      due(400, x.limit(0, true));
      x.rule(0, x.saying(0, 7, 5, 13));
      due(-20, x.limit(0, false));
      due(400, x.limit(0, true));
      x.choose(0, 2, 3);
      due(3, x.limit(0, false));
      due(3, x.limit(0, true));
      x.choose(0, 2, 2);
      due(-20, x.limit(0, false));
      due(10, x.limit(0, true));
      for (int q = 0; q < 2; q++) x.price(0, q, 0, -1000000);
      x.choose(0, 2, 0);
      due(-2000000, x.limit(0, false));
      x.choose(0, 0, 0);
      x.choose(0, 1, 0);
      due(-2000000, x.limit(0, true));
    });
    told("IllegalArgumentException;", () -> {
      for (boolean most : new boolean[] {false, true}) {
        refusedOutside(0, 1, ARGUMENT, Desks::busy, (x, o) -> x.limit(o, most));
        refused(ARGUMENT, Desks::empty, x -> x.limit(0, most));
      }
    });
    told("IllegalStateException: none FITS.", () -> {
      for (boolean most : new boolean[] {false, true}) {
        refused(STATE, Desks::deadEnd, x -> x.limit(0, most));
        ChoiceDesk x = Desks.deadEnd();
        x.start(0);
        due(STATE, answer(x, y -> y.limit(1, most)));
        x.drop(0, 0);
        due(0, answer(x, y -> y.limit(1, most)));
      }
    });
  }

  /** Book 1 has the names of book 0 the other way round; NUMBER has but 2 values there. */
  private static ChoiceDesk twoBooks() {
    ChoiceDesk x = Desks.three();
    x.question(1, 52, 2, 2, 10);
    x.question(1, 51, 1, 2, 0);
    x.question(1, 50, 0, 6, 0);
    x.rule(1, x.saying(1, 7, 6, 2));
    x.start(0);
    return x;
  }

  private static void carry() {
    section("Promise 33");
    told("An ORDER is carried over to a BOOK: a new ORDER there:", () -> {
      ChoiceDesk x = twoBooks();
      x.choose(0, 1, 1);
      x.wish(0, 0, 2, 9);
      due(1, x.carry(0, 1));
      due(1, x.state(1, 3));
      due(2, x.count(0, 6));
      due(0, x.nearest(1));
      due(0, x.wish(1, 1, 0, 0));
      due(2, x.state(0, 0));
      due(0, x.state(0, 3));
      due(2, x.carry(0, 0));
      due(2, x.state(2, 0));
      x.choose(2, 1, 0);
      due(1, x.value(0, 1));
      due(-3, x.question(1, 9, 0, 1, 0));
      due(3, x.carry(0, 3));
      due(-3, x.question(3, 9, 0, 1, 0));
      due(0, x.question(2, 9, 0, 1, 0));
    });
    told("its CHOICES, one behind the other,", () -> {
      ChoiceDesk x = twoBooks();
      x.choose(0, 0, 2);
      x.choose(0, 2, 1);
      x.choose(0, 1, 0);
      x.carry(0, 1);
      due(2, x.choice(1, 0));
      due(0, x.choice(1, 1));
      due(1, x.choice(1, 2));
      due(-1, x.choice(1, 3));
      due(2, x.value(1, 2));
      due(1, x.value(1, 0));
      due(0, x.value(1, 1));
      due(0, x.lost(1));
      x.choose(0, 0, 2);
      x.carry(0, 1);
      due(0, x.choice(2, 0));
      due(1, x.choice(2, 1));
      due(2, x.choice(2, 2));
    });
    told("of QUESTIONS whose NAMES are there,", () -> {
      ChoiceDesk x = twoBooks();
      x.question(2, 51, 1, 2, 0);
      for (int q = 0; q < 3; q++) x.choose(0, q, 1);
      due(1, x.carry(0, 2));
      due(1, x.state(1, 0));
      due(1, x.value(1, 0));
      due(5, x.lost(1));
      due(2, x.carry(0, 3));
      due(0, x.state(2, 0));
      due(7, x.lost(2));
    });
    told("if the VALUE is one there", () -> {
      ChoiceDesk x = twoBooks();
      x.choose(0, 2, 2);
      x.choose(0, 1, 1);
      x.carry(0, 1);
      due(2, x.state(1, 0));
      due(4, x.lost(1));
      x.question(2, 52, 3, 212, 0);
      x.question(2, 50, 3, 212, 0);
      x.choose(0, 2, 3);
      x.choose(0, 0, 0);
      x.carry(0, 2);
      due(1, x.state(2, 0));
      due(3, x.value(2, 0));
      due(3, x.lost(2));
    });
    told("and MAY be by then:", () -> {
      ChoiceDesk x = twoBooks();
      x.choose(0, 1, 1);
      x.choose(0, 0, 2);
      x.carry(0, 1);
      due(2, x.state(1, 0));
      due(1, x.lost(1));
      x.choose(0, 1, 1);
      x.carry(0, 1);
      due(4, x.state(2, 0));
      due(2, x.lost(2));
      due(0, x.value(2, 1));
      Desks.breakAll(x, 1);
      x.carry(0, 1);
      due(0, x.state(3, 0));
      due(3, x.lost(3));
    });
    told("its number.", () -> {
      ChoiceDesk x = twoBooks();
      for (int o = 1; o < 12; o++) due(o, x.carry(o - 1, o % 4));
      due(12, x.count(0, 6));
    });
    told("-1;", () -> {
      refusedOutside(0, 1, -1, Desks::busy, (x, o) -> x.carry(o, 1));
      refusedOutside(0, 3, -1, Desks::busy, (x, b) -> x.carry(0, b));
      refused(-1, Desks::empty, x -> x.carry(0, 0));
    });
    told("-2: there are 12.", () -> {
      for (int b = 0; b < 4; b++) {
        int book = b;
        refused(-2, Desks::fullOfOrders, x -> x.carry(0, book));
        refused(-2, Desks::fullOfOrders, x -> x.carry(11, book));
      }
    });
  }

  private static void lost() {
    section("Promise 34");
    told("QUESTIONS of the old ORDER whose CHOICES were LOST as this ORDER was carried over, as bits;", () -> {
      ChoiceDesk x = twoBooks();
      x.choose(0, 0, 1);
      x.choose(0, 2, 3);
      due(1, x.carry(0, 1));
      due(4, x.lost(1));
      x.choose(0, 2, 1);
      due(4, x.lost(1));
      x.back(1, 2);
      due(4, x.lost(1));
      ChoiceDesk full = Desks.yeses(8);
      full.start(0);
      for (int q = 0; q < 8; q++) full.choose(0, q, 1);
      full.carry(0, 1);
      due(255, full.lost(1));
      full.back(0, 0);
      full.carry(0, 1);
      due(254, full.lost(2));
      full.carry(0, 0);
      due(0, full.lost(3));
    });
    told("0 of those that weren't carried.", () -> {
      due(0, twoBooks().lost(0));
      ChoiceDesk x = Desks.busy();
      due(0, x.lost(0));
      due(5, x.lost(1));
      due(0, x.lost(x.start(1)));
      due(0, Desks.deadEnd().lost(0));
    });
    told("-1.", () -> {
      refusedOutside(0, 1, -1, Desks::busy, (x, o) -> x.lost(o));
      refused(-1, Desks::empty, x -> x.lost(0));
    });
  }

  private static void count() {
    section("Promise 35");
    told("Of a BOOK: 0 QUESTIONS, 1 SAYINGS, 2 TABLES, 3 RULES, 4 PAIRS, 5 STEPS;", () -> {
      ChoiceDesk x = Desks.busy();
      int[] first = {4, 5, 1, 3, 1, 1};
      int[] second = {2, 0, 0, 0, 0, 0};
      for (int what = 0; what < 6; what++) {
        due(first[what], x.count(0, what));
        due(second[what], x.count(1, what));
        due(0, x.count(2, what));
      }
      x.pair(0, 1, 0, 1);
      x.drop(0, 0);
      int[] then = {4, 5, 1, 2, 2, 1};
      for (int what = 0; what < 6; what++) due(then[what], x.count(0, what));
      due(8, Desks.eight().count(0, 0));
      due(48, Desks.fullOfSayings().count(0, 1));
      due(4, Desks.fullOfTables().count(0, 2));
      due(16, Desks.fullOfRules().count(0, 3));
      due(20, Desks.fullOfPairs().count(0, 4));
      due(10, Desks.fullOfSteps().count(0, 5));
    });
    told("of all (book any): 6 ORDERS.", () -> {
      for (int book : new int[] {LEAST, -1, 0, 1, 3, 4, MOST}) {
        due(0, new ChoiceDesk().count(book, 6));
        due(2, Desks.busy().count(book, 6));
        due(12, Desks.fullOfOrders().count(book, 6));
      }
    });
    told("-1.", () -> {
      refusedOutside(0, 6, -1, Desks::busy, (x, what) -> x.count(0, what));
      for (int w = 0; w < 6; w++) {
        int what = w;
        refusedOutside(0, 3, -1, Desks::busy, (x, b) -> x.count(b, what));
      }
    });
  }

  private static void keep() {
    section("Promise 36");
    told("SHELF d gets: what = 0 nothing;", () -> {
      for (int d = 0; d < 8; d++) {
        ChoiceDesk x = Desks.busy();
        due(0, x.keep(d, 0, LEAST, MOST));
        due(-11, x.toss(d));
        int other = (d + 1) % 8;
        due(Desks.busy().toss(other), x.toss(other));
      }
    });
    told("1 QUESTION k of a BOOK;", () -> {
      ChoiceDesk x = Desks.busy();
      int[] weights = {13, 24, 24, 116};
      for (int q = 0; q < 4; q++) {
        due(0, x.keep(7, 1, 0, q));
        due(weights[q], x.weight(7));
        due(q == 0 ? -15 : q, x.toss(7));
        due(STATE, answer(x, y -> y.element(7, 0)));
      }
      due(0, x.keep(0, 1, 1, 1));
      due(12, x.weight(0));
    });
    told("3 a ROW of shorts: VALUES of the QUESTIONS of NEAREST of ORDER k;", () -> {
      ChoiceDesk x = Desks.busy();
      x.wish(0, 3, 5, 9);
      for (int book : new int[] {LEAST, 0, 1, MOST}) {
        due(0, x.keep(7, 3, book, 0));
        int[] near = {2, 1, 1, 5};
        for (int q = 0; q < 4; q++) due(near[q], x.element(7, q));
        due(STATE, answer(x, y -> y.element(7, 4)));
      }
      x.wish(0, 3, 5, 0);
      due(5, x.element(7, 3));
      x.wish(0, 0, 2, 20);
      x.wish(0, 3, 6, 11);
      x.back(0, 0);
      due(0, x.keep(7, 3, 0, 0));
      holds(x, 7, 2, 1, 1, 1);
      x.make(6, 3, 4);
      due(4, x.copy(7, 0, 6, 0, 4));
      due(-12, x.copy(7, 0, 2, 0, 1));
      x.start(2);
      due(0, x.keep(7, 3, 0, 2));
      due(STATE, answer(x, y -> y.element(7, 0)));
      due(0, x.copy(7, 0, 6, 0, 0));
    });
    told("4 a ROW of longs: prices of the VALUES of QUESTION k of a BOOK:", () -> {
      ChoiceDesk x = Desks.busy();
      due(0, x.keep(7, 4, 0, 3));
      for (int i = 0; i < 6; i++) due(i == 4 ? -70 : 0, x.element(7, i));
      due(STATE, answer(x, y -> y.element(7, 6)));
      x.price(0, 3, 5, 8);
      due(-70, x.element(7, 4));
      due(0, x.keep(6, 4, 0, 3));
      due(8, x.element(6, 4));
      due(3, x.copy(2, 0, 6, 0, 3));
      due(-12, x.copy(1, 0, 6, 0, 1));
      x.price(1, 1, 1, 77);
      due(0, x.keep(5, 4, 1, 1));
      due(77, x.element(5, 1));
    });
    told("0.", () -> {
      ChoiceDesk x = Desks.busy();
      for (int d = 0; d < 8; d++) {
        due(0, x.keep(d, 0, 0, 0));
        due(0, x.keep(d, 1, 0, 3));
        due(0, x.keep(d, 3, 0, 1));
        due(0, x.keep(d, 4, 0, 3));
      }
    });
  }

  private static void keepRefusals() {
    told("-1;", () -> {
      for (int w : new int[] {0, 1, 3, 4}) {
        int what = w;
        refusedOutside(0, 7, -1, Desks::busy, (x, d) -> x.keep(d, what, 0, 0));
      }
      refusedOutside(0, 4, -1, Desks::busy, (x, what) -> x.keep(0, what, 0, 0));
      refused(-1, Desks::busy, x -> x.keep(0, 2, 0, 0));
      for (int w : new int[] {1, 4}) {
        int what = w;
        refusedOutside(0, 3, -1, Desks::busy, (x, b) -> x.keep(0, what, b, 0));
        refusedOutside(0, 3, -1, Desks::busy, (x, q) -> x.keep(0, what, 0, q));
        refused(-1, Desks::busy, x -> x.keep(0, what, 2, 0));
      }
      refusedOutside(0, 1, -1, Desks::busy, (x, o) -> x.keep(0, 3, 0, o));
      refused(-1, Desks::three, x -> x.keep(0, 3, 0, 0));
    });
    told("-4 (3).", () -> {
      refused(-4, Desks::deadEnd, x -> x.keep(0, 3, 0, 0));
      ChoiceDesk x = Desks.deadEnd();
      due(0, x.keep(0, 1, 0, 0));
      due(-4, x.keep(0, 3, 0, 0));
      due(13, x.weight(0));
      due(0, x.keep(1, 4, 0, 0));
      due(0, x.keep(0, 0, 0, 0));
    });
  }

  private static void make() {
    section("Promise 37");
    told("SHELF d gets a ROW of n shorts, or longs, 0", () -> {
      for (int what = 3; what <= 4; what++) {
        ChoiceDesk x = Desks.busy();
        for (int d = 0; d < 8; d++) {
          int shelf = d;
          due(0, x.make(d, what, d));
          for (int i = 0; i < d; i++) due(0, x.element(d, i));
          due(STATE, answer(x, y -> y.element(shelf, shelf)));
          due(-12, x.toss(d));
        }
        due(0, x.make(0, 7 - what, 1));
        due(-12, x.copy(0, 0, 7, 0, 1));
        due(0, x.make(0, what, 1));
        due(1, x.copy(0, 0, 7, 0, 1));
      }
    });
    told("(what 3, 4;", () -> {
      refusedOutside(3, 4, -1, Desks::busy, (x, what) -> x.make(0, what, 1));
      for (int what = 0; what < 3; what++) {
        int other = what;
        refused(-1, Desks::busy, x -> x.make(0, other, 0));
      }
    });
    told("n up to 60):", () -> {
      for (int w = 3; w <= 4; w++) {
        int what = w;
        for (int n : new int[] {61, 62, 256, 65536, MOST}) refused(-1, Desks::busy, x -> x.make(1, what, n));
        ChoiceDesk x = Desks.busy();
        due(0, x.make(1, what, 60));
        due(0, x.element(1, 59));
        due(STATE, answer(x, y -> y.element(1, 60)));
        due(0, x.make(1, what, 0));
        due(STATE, answer(x, y -> y.element(1, 0)));
        due(0, x.copy(1, 0, 1, 0, 0));
      }
    });
    told("0.", () -> {
      for (int n = 0; n <= 60; n++) {
        ChoiceDesk x = new ChoiceDesk();
        due(0, x.make(n % 8, 3 + n % 2, n));
        due(n, x.copy(n % 8, 0, n % 8, 0, n));
      }
    });
    told("-1;", () -> {
      refusedOutside(0, 7, -1, Desks::busy, (x, d) -> x.make(d, 3, 1));
      refusedOutside(0, 7, -1, Desks::busy, (x, d) -> x.make(d, 4, 61));
    });
    told("-14: n is below 0.", () -> {
      for (int w = 3; w <= 4; w++) {
        int what = w;
        for (int n : new int[] {-1, -2, -60, -256, LEAST}) {
          refused(-14, Desks::busy, x -> x.make(0, what, n));
          refused(-14, Desks::busy, x -> x.make(7, what, n));
        }
      }
    });
  }

  private static void element() {
    section("Promise 38");
    told("Element i, from 0, of the ROW on SHELF d.", () -> {
      ChoiceDesk x = Desks.busy();
      int[] near = {2, 1, 1, 1};
      for (int i = 0; i < 4; i++) due(near[i], x.element(1, i));
      int[] prices = {0, 500, 0};
      for (int i = 0; i < 3; i++) due(prices[i], x.element(2, i));
      x.price(0, 0, 0, -1000000);
      x.price(0, 0, 2, 1000000);
      x.keep(7, 4, 0, 0);
      due(-1000000, x.element(7, 0));
      due(1000000, x.element(7, 2));
    });
    told("IllegalArgumentException: no such SHELF;", () -> {
      refusedOutside(0, 7, ARGUMENT, Desks::busy, (x, d) -> x.element(d, 0));
      refusedOutside(0, 7, ARGUMENT, Desks::busy, (x, d) -> x.element(d, -1));
    });
    told("IllegalStateException: nothing is held,", () -> {
      for (int d = 4; d < 8; d++) {
        int shelf = d;
        refused(STATE, Desks::busy, x -> x.element(shelf, 0));
      }
      ChoiceDesk x = Desks.busy();
      x.keep(1, 0, 0, 0);
      due(STATE, answer(x, y -> y.element(1, 0)));
    });
    told("it is no ROW,", () -> {
      refused(STATE, Desks::busy, x -> x.element(0, 0));
      refused(STATE, Desks::busy, x -> x.element(3, 0));
      ChoiceDesk x = Desks.busy();
      x.keep(1, 1, 0, 0);
      due(STATE, answer(x, y -> y.element(1, 0)));
    });
    told("or has no such place.", () -> {
      refusedOutside(0, 3, STATE, Desks::busy, (x, i) -> x.element(1, i));
      refusedOutside(0, 2, STATE, Desks::busy, (x, i) -> x.element(2, i));
    });
  }

  /** Shelves 0, 1: longs 1 .. 6 and four 0; shelves 2, 3: shorts 2 1 0 and five 0. */
  private static ChoiceDesk rows() {
    ChoiceDesk x = Desks.three();
    x.question(1, 1, 0, 6, 0);
    for (int v = 0; v < 6; v++) x.price(1, 0, v, v + 1);
    x.keep(0, 4, 1, 0);
    x.make(1, 4, 4);
    x.start(0);
    x.wish(0, 0, 2, 1);
    x.wish(0, 1, 1, 1);
    x.keep(2, 3, 0, 0);
    x.make(3, 3, 5);
    x.keep(4, 1, 0, 0);
    return x;
  }

  private static void copy() {
    section("Promise 39");
    told("n elements of the ROW on SHELF d, from place i, come to the ROW on SHELF e, from place j", () -> {
      ChoiceDesk x = rows();
      due(2, x.copy(0, 3, 1, 1, 2));
      holds(x, 1, 0, 4, 5, 0);
      holds(x, 0, 1, 2, 3, 4, 5, 6);
      due(4, x.copy(0, 2, 1, 0, 4));
      holds(x, 1, 3, 4, 5, 6);
      due(3, x.copy(2, 0, 3, 2, 3));
      holds(x, 3, 0, 0, 2, 1, 0);
      holds(x, 2, 2, 1, 0);
      due(1, x.copy(3, 2, 2, 2, 1));
      holds(x, 2, 2, 1, 2);
    });
    told("(as they all were before):", () -> {
      ChoiceDesk x = rows();
      due(5, x.copy(0, 0, 0, 1, 5));
      holds(x, 0, 1, 1, 2, 3, 4, 5);
      due(4, x.copy(0, 2, 0, 1, 4));
      holds(x, 0, 1, 2, 3, 4, 5, 5);
      due(2, x.copy(2, 0, 2, 1, 2));
      holds(x, 2, 2, 2, 1);
      due(2, x.copy(2, 1, 2, 0, 2));
      holds(x, 2, 2, 1, 1);
      due(6, x.copy(0, 0, 0, 0, 6));
      holds(x, 0, 1, 2, 3, 4, 5, 5);
    });
    told("n.", () -> {
      for (int n = 0; n <= 4; n++) due(n, rows().copy(0, 6 - n, 1, 4 - n, n));
      for (int n = 0; n <= 6; n++) due(n, rows().copy(0, 0, 0, 0, n));
      ChoiceDesk x = rows();
      due(0, x.copy(0, 6, 1, 4, 0));
      due(0, x.copy(0, 0, 1, 0, 0));
      holds(x, 1, 0, 0, 0, 0);
    });
  }

  private static void copyRefusals() {
    told("-1;", () -> {
      refusedOutside(0, 7, -1, ShelfSentences::rows, (x, d) -> x.copy(d, 0, 1, 0, 1));
      refusedOutside(0, 7, -1, ShelfSentences::rows, (x, e) -> x.copy(0, 0, e, 0, 1));
      refusedOutside(0, 7, -1, ShelfSentences::rows, (x, d) -> x.copy(d, 0, d, 0, 0));
    });
    told("-11: of either;", () -> {
      refused(-11, ShelfSentences::rows, x -> x.copy(5, 0, 1, 0, 1));
      refused(-11, ShelfSentences::rows, x -> x.copy(0, 0, 5, 0, 1));
      refused(-11, ShelfSentences::rows, x -> x.copy(6, 0, 7, 0, 1));
      refused(-11, ShelfSentences::rows, x -> x.copy(5, 0, 5, 0, 0));
      refused(-11, ShelfSentences::rows, x -> x.copy(4, 0, 5, 0, 1));
      refused(-11, ShelfSentences::rows, x -> x.copy(5, 0, 4, 0, 1));
    });
    told("-12: one is no ROW,", () -> {
      for (int d = 0; d <= 4; d++) {
        int shelf = d;
        refused(-12, ShelfSentences::rows, x -> x.copy(4, 0, shelf, 0, 0));
        refused(-12, ShelfSentences::rows, x -> x.copy(shelf, 0, 4, 0, 0));
      }
    });
    told("or they are not of one kind;", () -> {
      for (int n = -1; n <= 1; n++) {
        int some = n;
        refused(-12, ShelfSentences::rows, x -> x.copy(0, 0, 2, 0, some));
        refused(-12, ShelfSentences::rows, x -> x.copy(3, 0, 1, 0, some));
      }
    });
    told("-13: n, i or j is below 0,", () -> {
      for (int[] shelves : new int[][] {{0, 1}, {2, 3}, {0, 0}, {3, 3}}) {
        for (int n : new int[] {-1, -2, LEAST}) {
          refused(-13, ShelfSentences::rows, x -> x.copy(shelves[0], 0, shelves[1], 0, n));
          refused(-13, ShelfSentences::rows, x -> x.copy(shelves[0], n, shelves[1], 0, 1));
          refused(-13, ShelfSentences::rows, x -> x.copy(shelves[0], 0, shelves[1], n, 1));
          refused(-13, ShelfSentences::rows, x -> x.copy(shelves[0], n, shelves[1], 0, 0));
          refused(-13, ShelfSentences::rows, x -> x.copy(shelves[0], 0, shelves[1], n, 0));
          refused(-13, ShelfSentences::rows, x -> x.copy(shelves[0], 1, shelves[1], 1, n));
        }
      }
    });
    told("or beyond either's end.", () -> {
      int[] lengths = {6, 4, 3, 5};
      for (int[] shelves : new int[][] {{0, 1}, {1, 0}, {2, 3}, {3, 2}, {0, 0}, {3, 3}}) {
        int from = lengths[shelves[0]];
        int to = lengths[shelves[1]];
        for (int n = 0; n <= 2; n++) {
          int some = n;
          refused(-13, ShelfSentences::rows, x -> x.copy(shelves[0], from - some + 1, shelves[1], 0, some));
          refused(-13, ShelfSentences::rows, x -> x.copy(shelves[0], 0, shelves[1], to - some + 1, some));
        }
        for (int n : new int[] {Math.min(from, to) + 1, 61, 65536, MOST}) {
          refused(-13, ShelfSentences::rows, x -> x.copy(shelves[0], 0, shelves[1], 0, n));
          refused(-13, ShelfSentences::rows, x -> x.copy(shelves[0], 1, shelves[1], 1, n));
          refused(-13, ShelfSentences::rows, x -> x.copy(shelves[0], MOST, shelves[1], 0, n));
          refused(-13, ShelfSentences::rows, x -> x.copy(shelves[0], 0, shelves[1], MOST, n));
          refused(-13, ShelfSentences::rows, x -> x.copy(shelves[0], MOST, shelves[1], MOST, n));
        }
        refused(-13, ShelfSentences::rows, x -> x.copy(shelves[0], MOST, shelves[1], 0, 0));
        refused(-13, ShelfSentences::rows, x -> x.copy(shelves[0], 0, shelves[1], MOST, 0));
      }
    });
  }

  private static int weightOf(int kind, int how, int from) {
    ChoiceDesk x = new ChoiceDesk();
    x.question(0, 1, kind, how, from);
    x.keep(7, 1, 0, 0);
    return x.weight(7);
  }

  private static void weight() {
    section("Promise 40");
    told("The WEIGHT of the QUESTION on SHELF d: 10 and its VALUES;", () -> {
      for (int n = 1; n <= 6; n++) due(10 + n, weightOf(0, n, 50));
      ChoiceDesk x = Desks.busy();
      due(24, x.weight(0));
      due(13, x.weight(3));
    });
    told("of YES twice that of ONE;", () -> due(24, weightOf(1, 2, 50)));
    told("of NUMBER also the number from which it begins;", () -> {
      for (int from : new int[] {-100, -13, -1, 0, 1, 100}) {
        for (int n = 1; n <= 6; n++) due(10 + n + from, weightOf(2, n, from));
      }
    });
    told("of MANY 100 more than ONE.", () -> {
      int[] hows = {1, 101, 111, 2, 102, 202, 222, 303, 313, 213, 333, 3};
      int[] sets = {1, 2, 1, 1, 3, 4, 1, 8, 7, 6, 1, 1};
      for (int i = 0; i < hows.length; i++) due(110 + sets[i], weightOf(3, hows[i], 50));
    });
    told("IllegalArgumentException: no such SHELF;", () -> {
      refusedOutside(0, 7, ARGUMENT, Desks::busy, (x, d) -> x.weight(d));
    });
    told("IllegalStateException: no QUESTION is held there.", () -> {
      for (int d : new int[] {1, 2, 4, 7}) refused(STATE, Desks::busy, x -> x.weight(d));
      ChoiceDesk x = Desks.busy();
      x.keep(0, 0, 0, 0);
      due(STATE, answer(x, y -> y.weight(0)));
      x.make(3, 3, 0);
      due(STATE, answer(x, y -> y.weight(3)));
    });
  }

  private static void toss() {
    section("Promise 41");
    told("The FAILURE of the QUESTION on SHELF d is thrown, and caught: its number.", () -> {
      for (int first = 0; first < 4; first++) {
        ChoiceDesk x = new ChoiceDesk();
        int[] hows = {1, 2, 1, 101};
        for (int q = 0; q < 8; q++) x.question(2, 9 - q, (first + q) % 4, hows[(first + q) % 4], 50);
        for (int q = 0; q < 8; q++) {
          x.keep(7 - q, 1, 2, q);
          due((first + q) % 4 == 0 ? -15 : q, x.toss(7 - q));
          due((first + q) % 4 == 0 ? -15 : q, x.toss(7 - q));
        }
      }
    });
    told("-1,", () -> refusedOutside(0, 7, -1, Desks::busy, (x, d) -> x.toss(d)));
    told("-11,", () -> {
      for (int d = 4; d < 8; d++) {
        int shelf = d;
        refused(-11, Desks::busy, x -> x.toss(shelf));
      }
    });
    told("-12;", () -> {
      refused(-12, Desks::busy, x -> x.toss(1));
      refused(-12, Desks::busy, x -> x.toss(2));
      ChoiceDesk x = Desks.busy();
      x.make(0, 3, 0);
      x.make(3, 4, 0);
      due(-12, x.toss(0));
      due(-12, x.toss(3));
    });
    told("-15: ONE has none.", () -> {
      refused(-15, Desks::busy, x -> x.toss(3));
      for (int n = 1; n <= 6; n++) {
        ChoiceDesk x = new ChoiceDesk();
        x.question(0, 1, 0, n, 0);
        x.keep(0, 1, 0, 0);
        due(-15, x.toss(0));
        due(10 + n, x.weight(0));
      }
    });
  }
}

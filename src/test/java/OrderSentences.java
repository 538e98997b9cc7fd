/** The sentences of promises 14 to 27, one by one. */
final class OrderSentences extends Sentences {
  private OrderSentences() {
  }

  static void all() {
    start();
    choose();
    back();
    may();
    value();
    state();
    choice();
    why();
    standard();
    fill();
    wish();
    nearest();
    near();
    fewest();
  }

  /** Three questions; ONE and NUMBER come to 12 at most, so ONE 2 leaves 10; order 0 is new. */
  private static ChoiceDesk tied() {
    ChoiceDesk x = Desks.three();
    x.rule(0, x.saying(0, 7, 5, 12));
    x.start(0);
    return x;
  }

  private static ChoiceDesk tiedAndChosen() {
    ChoiceDesk x = tied();
    x.choose(0, 2, 1);
    x.choose(0, 0, 1);
    return x;
  }

  private static void start() {
    section("Promise 14");
    told("An ORDER of a BOOK without CHOICES: its number.", () -> {
      ChoiceDesk x = Desks.busy();
      due(2, x.start(0));
      due(3, x.start(3));
      due(4, x.count(0, 6));
      due(0, x.state(2, 0));
      due(0, x.state(2, 3));
      due(3, x.state(3, 3));
      due(-1, x.choice(2, 0));
      due(0, x.nearest(2));
      due(0, x.lost(2));
      due(x.wholes(0), x.state(2, 2));
      due(1, Desks.deadEnd().start(0));
    });
    told("-1;", () -> refusedOutside(0, 3, -1, Desks::busy, (x, b) -> x.start(b)));
    told("-2: there are 12.", () -> {
      for (int b = 0; b < 4; b++) {
        int book = b;
        refused(-2, Desks::fullOfOrders, x -> x.start(book));
      }
      ChoiceDesk x = Desks.three();
      for (int o = 0; o < 11; o++) x.start(0);
      due(11, x.start(1));
      due(-2, x.start(1));
      due(12, x.count(0, 6));
    });
  }

  private static void choose() {
    section("Promise 15");
    told("A CHOICE (in place of one of that QUESTION;", () -> {
      ChoiceDesk x = tied();
      due(1, x.choose(0, 0, 2));
      due(2, x.value(0, 0));
      due(1, x.choose(0, 0, 1));
      due(1, x.value(0, 0));
      due(1, x.choose(0, 0, 1));
      due(1, x.state(0, 0));
      due(-1, x.choice(0, 1));
      due(4, x.state(0, 2));
    });
    told("it is the last one then):", () -> {
      ChoiceDesk x = tiedAndChosen();
      due(2, x.choose(0, 2, 0));
      due(0, x.choice(0, 0));
      due(2, x.choice(0, 1));
      due(2, x.choose(0, 0, 1));
      due(2, x.choice(0, 0));
      due(0, x.choice(0, 1));
      due(3, x.choose(0, 1, 0));
      due(3, x.choose(0, 0, 0));
      due(2, x.choice(0, 0));
      due(1, x.choice(0, 1));
      due(0, x.choice(0, 2));
    });
    told("how many CHOICES there are.", () -> {
      ChoiceDesk x = Desks.yeses(8);
      x.start(0);
      for (int q = 0; q < 8; q++) due(q + 1, x.choose(0, q, 1));
      for (int q = 0; q < 8; q++) due(8, x.choose(0, q, 0));
      x.back(0, 3);
      due(7, x.choose(0, 4, 1));
      due(8, x.choose(0, 3, 1));
    });
    told("-1;", () -> {
      refusedOutside(0, 1, -1, Desks::busy, (x, o) -> x.choose(o, 0, 1));
      refusedOutside(0, 3, -1, Desks::busy, (x, q) -> x.choose(0, q, 1));
      refusedOutside(0, 2, -1, Desks::busy, (x, v) -> x.choose(0, 0, v));
      refusedOutside(0, 3, -1, Desks::busy, (x, v) -> x.choose(0, 2, v));
      refusedOutside(1, 6, -1, Desks::busy, (x, v) -> x.choose(0, 3, v));
      refused(-1, Desks::busy, x -> x.choose(1, 2, 0));
    });
    told("-3: the VALUE may not be.", () -> {
      refused(-3, OrderSentences::tiedAndChosen, x -> x.choose(0, 0, 2));
      refused(-3, OrderSentences::tiedAndChosen, x -> x.choose(0, 2, 2));
      refused(-3, OrderSentences::tied, x -> x.choose(0, 2, 3));
      for (int v = 0; v < 3; v++) {
        int value = v;
        refused(-3, Desks::deadEnd, x -> x.choose(0, 0, value));
      }
      ChoiceDesk x = tiedAndChosen();
      due(2, x.choose(0, 2, 0));
      due(2, x.choose(0, 0, 2));
    });
  }

  private static void back() {
    section("Promise 16");
    told("The CHOICE of a QUESTION is taken back: the VALUE.", () -> {
      ChoiceDesk x = tiedAndChosen();
      x.choose(0, 1, 0);
      due(1, x.back(0, 0));
      due(6, x.state(0, 0));
      due(2, x.choice(0, 0));
      due(1, x.choice(0, 1));
      due(-1, x.choice(0, 2));
      due(1, x.back(0, 2));
      due(0, x.back(0, 1));
      due(0, x.state(0, 0));
      due(x.wholes(0), x.state(0, 2));
      ChoiceDesk y = Desks.busy();
      y.choose(0, 3, 5);
      due(5, y.back(0, 3));
      due(2, Desks.deadEnd().back(0, 0));
    });
    told("-1;", () -> {
      refusedOutside(0, 1, -1, Desks::busy, (x, o) -> x.back(o, 0));
      refusedOutside(0, 3, -1, Desks::busy, (x, q) -> x.back(0, q));
      refusedOutside(0, 1, -1, Desks::busy, (x, q) -> x.back(1, q));
    });
    told("-2: there is none.", () -> {
      refused(-2, Desks::busy, x -> x.back(0, 1));
      refused(-2, Desks::busy, x -> x.back(0, 3));
      refused(-2, Desks::busy, x -> x.back(1, 0));
      refused(-2, OrderSentences::tied, x -> x.back(0, 0));
      ChoiceDesk x = tiedAndChosen();
      x.back(0, 0);
      due(-2, x.back(0, 0));
    });
  }

  private static void may() {
    section("Promise 17");
    told("Whether a VALUE MAY be: 1, else 0.", () -> {
      ChoiceDesk x = tied();
      for (int v = 0; v < 4; v++) due(v < 3 ? 1 : 0, x.may(0, 2, v));
      x.choose(0, 0, 2);
      for (int v = 0; v < 4; v++) due(v < 1 ? 1 : 0, x.may(0, 2, v));
      for (int v = 0; v < 3; v++) due(1, x.may(0, 0, v));
      x.choose(0, 2, 0);
      for (int v = 0; v < 4; v++) due(v < 1 ? 1 : 0, x.may(0, 2, v));
      x.choose(0, 0, 1);
      for (int v = 0; v < 4; v++) due(v < 2 ? 1 : 0, x.may(0, 2, v));
      for (int v = 0; v < 3; v++) due(0, Desks.deadEnd().may(0, 0, v));
    });
    told("-1.", () -> {
      refusedOutside(0, 1, -1, Desks::busy, (x, o) -> x.may(o, 0, 1));
      refusedOutside(0, 3, -1, Desks::busy, (x, q) -> x.may(0, q, 1));
      refusedOutside(0, 2, -1, Desks::busy, (x, v) -> x.may(0, 0, v));
      refusedOutside(0, 3, -1, Desks::busy, (x, v) -> x.may(0, 2, v));
      refusedOutside(1, 6, -1, Desks::busy, (x, v) -> x.may(0, 3, v));
    });
  }

  private static void value() {
    section("Promise 18");
    told("The VALUE of a QUESTION in an ORDER: its CHOICE,", () -> {
      ChoiceDesk x = tiedAndChosen();
      due(1, x.value(0, 0));
      due(1, x.value(0, 2));
      x.choose(0, 0, 0);
      due(0, x.value(0, 0));
      due(2, Desks.deadEnd().value(0, 0));
      ChoiceDesk y = Desks.busy();
      y.choose(0, 3, 5);
      due(5, y.value(0, 3));
    });
    told("or with what it is BROUGHT;", () -> {
      ChoiceDesk x = tied();
      x.choose(0, 0, 2);
      due(0, x.value(0, 2));
      x.back(0, 0);
      x.choose(0, 2, 2);
      due(0, x.value(0, 0));
      due(1, Desks.busy().value(0, 1));
      ChoiceDesk y = new ChoiceDesk();
      y.question(0, 1, 3, 222, 0);
      y.start(0);
      due(3, y.value(0, 0));
    });
    told("-2: neither.", () -> {
      refused(-2, OrderSentences::tied, x -> x.value(0, 0));
      refused(-2, OrderSentences::tied, x -> x.value(0, 1));
      refused(-2, OrderSentences::tiedAndChosen, x -> x.value(0, 1));
      refused(-2, Desks::deadEnd, x -> x.value(0, 1));
      refused(-2, Desks::deadEnd, x -> x.value(0, 2));
    });
    told("-1.", () -> {
      refusedOutside(0, 1, -1, Desks::busy, (x, o) -> x.value(o, 0));
      refusedOutside(0, 3, -1, Desks::busy, (x, q) -> x.value(0, q));
      refusedOutside(0, 1, -1, Desks::busy, (x, q) -> x.value(1, q));
    });
  }

  private static void state() {
    section("Promise 19");
    told("QUESTIONS with CHOICES (what = 0),", () -> {
      due(0, tied().state(0, 0));
      due(5, tiedAndChosen().state(0, 0));
      ChoiceDesk x = Desks.yeses(8);
      x.start(0);
      for (int q = 7; q >= 0; q--) x.choose(0, q, 1);
      due(255, x.state(0, 0));
      x.back(0, 7);
      due(127, x.state(0, 0));
      due(1, Desks.deadEnd().state(0, 0));
    });
    told("those that are BROUGHT (1), as bits;", () -> {
      due(0, tied().state(0, 1));
      due(2, Desks.busy().state(0, 1));
      due(0, Desks.deadEnd().state(0, 1));
      ChoiceDesk x = new ChoiceDesk();
      for (int q = 0; q < 8; q++) x.question(0, q, 2, 1, 0);
      x.start(0);
      due(255, x.state(0, 1));
      x.choose(0, 7, 0);
      x.choose(0, 0, 0);
      due(126, x.state(0, 1));
    });
    told("2: how many WHOLES FIT it;", () -> {
      due(12, tied().state(0, 2));
      due(2, tiedAndChosen().state(0, 2));
      due(0, Desks.deadEnd().state(0, 2));
      due(512 / 8, Desks.eight().state(0, 2));
      ChoiceDesk x = Desks.mostWays();
      x.start(0);
      x.start(1);
      due(20000, x.state(0, 2));
      due(1, x.state(1, 2));
    });
    told("3: the BOOK.", () -> {
      ChoiceDesk x = Desks.busy();
      due(0, x.state(0, 3));
      due(1, x.state(1, 3));
      due(3, x.state(x.start(3), 3));
      due(2, x.state(x.carry(0, 2), 3));
    });
    told("-1.", () -> {
      refusedOutside(0, 3, -1, Desks::busy, (x, what) -> x.state(0, what));
      for (int w = 0; w < 4; w++) {
        int what = w;
        refusedOutside(0, 1, -1, Desks::busy, (x, o) -> x.state(o, what));
      }
    });
  }

  private static void choice() {
    section("Promise 20");
    told("The QUESTION of CHOICE i, from 0.", () -> {
      ChoiceDesk x = Desks.yeses(8);
      x.start(0);
      for (int i = 0; i < 8; i++) x.choose(0, i * 3 % 8, 1);
      for (int i = 0; i < 8; i++) due(i * 3 % 8, x.choice(0, i));
      x.choose(0, 3, 0);
      int[] then = {0, 6, 1, 4, 7, 2, 5, 3};
      for (int i = 0; i < 8; i++) due(then[i], x.choice(0, i));
      x.back(0, 0);
      for (int i = 0; i < 7; i++) due(then[i + 1], x.choice(0, i));
    });
    told("-1.", () -> {
      refusedOutside(0, 1, -1, Desks::busy, (x, o) -> x.choice(o, 0));
      refusedOutside(0, 1, -1, Desks::busy, (x, i) -> x.choice(0, i));
      refused(-1, Desks::busy, x -> x.choice(1, 0));
      ChoiceDesk x = Desks.yeses(8);
      x.start(0);
      for (int q = 0; q < 8; q++) x.choose(0, q, 1);
      due(-1, x.choice(0, 8));
      x.back(0, 7);
      due(-1, x.choice(0, 7));
    });
  }

  private static void why() {
    section("Promise 21");
    told("WHY a VALUE can't be, as bits.", () -> {
      ChoiceDesk x = tied();
      due(0, x.why(0, 2, 3));
      x.choose(0, 1, 1);
      x.choose(0, 0, 1);
      due(1, x.why(0, 2, 2));
      due(0, x.why(0, 2, 3));
      x.choose(0, 2, 1);
      due(4, x.why(0, 0, 2));
      due(0, Desks.deadEnd().why(0, 0, 0));
      due(1, Desks.busy().why(0, 1, 0));
      ChoiceDesk y = Desks.yeses(8);
      y.rule(0, y.saying(0, 7, 255, 7));
      y.start(0);
      for (int q = 0; q < 7; q++) y.choose(0, q, 1);
      due(127, y.why(0, 7, 1));
      y.choose(0, 7, 0);
      due(127, y.why(0, 7, 1));
    });
    told("-1;", () -> {
      refusedOutside(0, 1, -1, Desks::busy, (x, o) -> x.why(o, 0, 1));
      refusedOutside(0, 3, -1, Desks::busy, (x, q) -> x.why(0, q, 1));
      refusedOutside(0, 2, -1, Desks::busy, (x, v) -> x.why(0, 0, v));
      refusedOutside(1, 6, -1, Desks::busy, (x, v) -> x.why(0, 3, v));
      refusedOutside(0, 2, -1, Desks::deadEnd, (x, v) -> x.why(0, 0, v));
    });
    told("-2: it MAY be.", () -> {
      for (int v = 0; v < 3; v++) {
        int value = v;
        refused(-2, OrderSentences::tied, x -> x.why(0, 0, value));
        refused(-2, OrderSentences::tied, x -> x.why(0, 2, value));
      }
      refused(-2, OrderSentences::tiedAndChosen, x -> x.why(0, 0, 0));
      refused(-2, OrderSentences::tiedAndChosen, x -> x.why(0, 0, 1));
    });
  }

  private static void standard() {
    section("Promise 22");
    told("The default of a QUESTION of a BOOK is a VALUE: the one before", () -> {
      ChoiceDesk x = Desks.busy();
      due(1, x.standard(0, 0, 2));
      due(2, x.standard(0, 0, 2));
      due(2, x.standard(0, 0, 0));
      due(6, x.standard(0, 3, 1));
      due(1, x.standard(0, 3, 4));
      due(0, x.standard(1, 0, 1));
      due(0, x.standard(0, 0, 1));
      due(0, x.standard(0, 2, 3));
      x.start(0);
      x.fill(2);
      due(1, x.value(2, 0));
      due(0, x.value(2, 2));
      due(4, x.value(2, 3));
    });
    told("(its least VALUE at first).", () -> {
      for (int n = 1; n <= 3; n++) {
        for (int least = 0; least <= n; least++) {
          ChoiceDesk x = new ChoiceDesk();
          x.question(0, 1, 3, n + 10 * least + 100 * n, 0);
          due((1 << least) - 1, x.standard(0, 0, (1 << n) - 1));
        }
      }
      ChoiceDesk x = Desks.three();
      due(0, x.standard(0, 0, 2));
      due(0, x.standard(0, 1, 1));
      due(0, x.standard(0, 2, 3));
      due(0, x.question(1, 1, 3, 213, 0));
      x.start(1);
      due(1, x.fill(0));
      due(1, x.value(0, 0));
    });
    told("-1.", () -> {
      refusedOutside(0, 3, -1, Desks::busy, (x, b) -> x.standard(b, 0, 0));
      refusedOutside(0, 3, -1, Desks::busy, (x, q) -> x.standard(0, q, 1));
      refusedOutside(0, 2, -1, Desks::busy, (x, v) -> x.standard(0, 0, v));
      refusedOutside(0, 3, -1, Desks::busy, (x, v) -> x.standard(0, 2, v));
      refusedOutside(1, 6, -1, Desks::busy, (x, v) -> x.standard(0, 3, v));
    });
  }

  private static void fill() {
    section("Promise 23");
    told("By THE TURN each QUESTION without CHOICE gets one:", () -> {
      ChoiceDesk x = tied();
      x.turn(0, 2, 0);
      x.turn(0, 1, 1);
      due(3, x.fill(0));
      due(2, x.choice(0, 0));
      due(1, x.choice(0, 1));
      due(0, x.choice(0, 2));
      x.start(0);
      x.choose(1, 1, 1);
      due(2, x.fill(1));
      due(1, x.choice(1, 0));
      due(2, x.choice(1, 1));
      due(0, x.choice(1, 2));
      due(1, x.value(1, 1));
    });
    told("its default, if that MAY be by then,", () -> {
      ChoiceDesk x = tied();
      x.standard(0, 0, 2);
      x.standard(0, 1, 1);
      x.standard(0, 2, 2);
      x.fill(0);
      due(2, x.value(0, 0));
      due(1, x.value(0, 1));
      due(0, x.value(0, 2));
      x.turn(0, 2, 0);
      x.start(0);
      x.fill(1);
      due(2, x.value(1, 2));
      due(1, x.value(1, 1));
      due(0, x.value(1, 0));
      x.start(0);
      x.choose(2, 0, 1);
      x.fill(2);
      due(0, x.value(2, 2));
      x.standard(0, 2, 1);
      x.start(0);
      x.choose(3, 0, 1);
      x.fill(3);
      due(1, x.value(3, 2));
    });
    told("else the least VALUE that MAY be:", () -> {
      ChoiceDesk x = new ChoiceDesk();
      x.question(0, 1, 3, 303, 0);
      x.question(0, 2, 0, 6, 0);
      x.saying(0, 1, 0, 1);
      x.rule(0, 0);
      x.table(0, 1, -1, -1);
      x.row(0, 0, 4, 0, 0);
      x.row(0, 0, 3, 0, 0);
      x.rule(0, x.saying(0, 8, 0, 0));
      x.start(0);
      x.standard(0, 0, 5);
      x.standard(0, 1, 5);
      due(2, x.fill(0));
      due(2, x.value(0, 0));
      due(3, x.value(0, 1));
    });
    told("how many got one.", () -> {
      ChoiceDesk x = Desks.yeses(8);
      x.start(0);
      for (int q = 0; q < 8; q++) x.start(0);
      for (int n = 0; n <= 8; n++) {
        for (int q = 0; q < n; q++) x.choose(n, 7 - q, 1);
        due(8 - n, x.fill(n));
        due(255, x.state(n, 0));
        due(0, x.fill(n));
      }
      x.start(1);
      due(0, x.fill(9));
    });
    told("-1;", () -> refusedOutside(0, 1, -1, Desks::busy, (x, o) -> x.fill(o)));
    told("-4: it is at a DEAD END.", () -> {
      refused(-4, Desks::deadEnd, x -> x.fill(0));
      for (int q = 0; q < 3; q++) {
        ChoiceDesk x = Desks.three();
        x.start(0);
        x.choose(0, q, 1);
        x.rule(0, x.saying(0, 0, q, 0));
        due(-4, x.fill(0));
        x.back(0, q);
        due(3, x.fill(0));
      }
      ChoiceDesk x = tied();
      x.fill(0);
      Desks.breakAll(x, 0);
      due(-4, x.fill(0));
      x.start(0);
      due(-4, x.fill(1));
      due(0, x.state(1, 0));
      Desks.breakAll(x, 1);
      x.start(1);
      due(-4, x.fill(2));
    });
  }

  private static ChoiceDesk wishing() {
    ChoiceDesk x = tied();
    x.wish(0, 0, 2, 10);
    x.wish(0, 2, 2, 10);
    x.wish(0, 1, 1, 10);
    return x;
  }

  private static void wish() {
    section("Promise 24");
    told("A WISH of an ORDER: a VALUE, of a weight", () -> {
      ChoiceDesk x = tied();
      x.start(0);
      due(1, x.wish(0, 2, 3, 1000));
      due(1000, x.nearest(0));
      due(0, x.nearest(1));
      due(1, x.wish(0, 2, 3, 1));
      due(1, x.nearest(0));
      due(1, x.wish(0, 2, 2, 77));
      due(0, x.nearest(0));
      due(2, x.near(0, 2));
      refusedOutside(0, 1000, -1, OrderSentences::wishing, (y, weight) -> y.wish(0, 0, 2, weight));
    });
    told("(0: none any more):", () -> {
      ChoiceDesk x = wishing();
      due(10, x.nearest(0));
      due(2, x.wish(0, 2, 2, 0));
      due(0, x.nearest(0));
      due(0, x.fewest(0));
      due(0, x.near(0, 2));
      due(2, x.near(0, 0));
      due(2, x.wish(0, 2, 0, 0));
      due(1, x.wish(0, 0, 1, 0));
      due(0, x.near(0, 0));
      due(2, x.wish(0, 0, 2, 5));
      due(2, x.near(0, 0));
    });
    told("how many WISHES it has.", () -> {
      ChoiceDesk x = Desks.yeses(8);
      x.start(0);
      x.start(0);
      due(0, x.wish(0, 0, 0, 0));
      for (int q = 0; q < 8; q++) due(q + 1, x.wish(0, q, 1, 1 + q));
      for (int q = 0; q < 8; q++) due(8, x.wish(0, q, 0, 1));
      due(1, x.wish(1, 7, 0, 1));
      for (int q = 0; q < 8; q++) due(7 - q, x.wish(0, q, 0, 0));
      due(0, x.wish(0, 7, 0, 0));
    });
    told("-1.", () -> {
      refusedOutside(0, 1, -1, Desks::busy, (x, o) -> x.wish(o, 0, 1, 1));
      refusedOutside(0, 3, -1, Desks::busy, (x, q) -> x.wish(0, q, 1, 1));
      refusedOutside(0, 2, -1, Desks::busy, (x, v) -> x.wish(0, 0, v, 1));
      refusedOutside(1, 6, -1, Desks::busy, (x, v) -> x.wish(0, 3, v, 1));
      refusedOutside(0, 1, -1, Desks::busy, (x, v) -> x.wish(0, 1, v, 0));
      refusedOutside(0, 1000, -1, Desks::busy, (x, weight) -> x.wish(0, 1, 0, weight));
    });
  }

  private static void nearest() {
    section("Promise 25");
    told("NEAREST: the sum of weights that it hasn't.", () -> {
      due(0, tied().nearest(0));
      ChoiceDesk x = wishing();
      due(10, x.nearest(0));
      x.choose(0, 1, 0);
      due(20, x.nearest(0));
      x.choose(0, 0, 1);
      due(30, x.nearest(0));
      ChoiceDesk y = Desks.yeses(8);
      y.start(0);
      for (int q = 0; q < 8; q++) y.wish(0, q, 1, 1000);
      due(0, y.nearest(0));
      y.rule(0, y.saying(0, 7, 255, 0));
      due(8000, y.nearest(0));
      ChoiceDesk z = new ChoiceDesk();
      z.start(0);
      due(0, z.nearest(0));
    });
    told("-1;", () -> refusedOutside(0, 1, -1, Desks::busy, (x, o) -> x.nearest(o)));
    told("-4.", () -> {
      refused(-4, Desks::deadEnd, x -> x.nearest(0));
      ChoiceDesk x = wishing();
      Desks.breakAll(x, 0);
      due(-4, x.nearest(0));
      x.drop(0, 1);
      due(10, x.nearest(0));
    });
  }

  private static void near() {
    section("Promise 26");
    told("The VALUE that NEAREST has of a QUESTION.", () -> {
      ChoiceDesk x = wishing();
      int[] least = {0, 1, 2};
      for (int q = 0; q < 3; q++) due(least[q], x.near(0, q));
      x.wish(0, 0, 2, 11);
      int[] then = {2, 1, 0};
      for (int q = 0; q < 3; q++) due(then[q], x.near(0, q));
      x.choose(0, 2, 1);
      int[] last = {0, 1, 1};
      for (int q = 0; q < 3; q++) due(last[q], x.near(0, q));
      ChoiceDesk y = Desks.busy();
      int[] busy = {2, 1, 1, 1};
      for (int q = 0; q < 4; q++) due(busy[q], y.near(0, q));
    });
    told("-1;", () -> {
      refusedOutside(0, 1, -1, Desks::busy, (x, o) -> x.near(o, 0));
      refusedOutside(0, 3, -1, Desks::busy, (x, q) -> x.near(0, q));
      refusedOutside(0, 2, -1, Desks::deadEnd, (x, q) -> x.near(0, q));
    });
    told("-4.", () -> {
      for (int q = 0; q < 3; q++) {
        int question = q;
        refused(-4, Desks::deadEnd, x -> x.near(0, question));
      }
    });
  }

  private static void fewest() {
    section("Promise 27");
    told("The fewest WISHES (whatever their weights) that some WHOLE that FITS hasn't.", () -> {
      due(0, tied().fewest(0));
      ChoiceDesk x = Desks.yeses(8);
      x.rule(0, x.saying(0, 7, 0b00000011, 1));
      x.rule(0, x.saying(0, 7, 0b00000101, 1));
      x.start(0);
      x.wish(0, 0, 1, 1000);
      x.wish(0, 1, 1, 1);
      x.wish(0, 2, 1, 1);
      due(2, x.nearest(0));
      due(1, x.fewest(0));
      x.choose(0, 0, 1);
      due(2, x.fewest(0));
      x.choose(0, 1, 0);
      due(2, x.fewest(0));
      x.wish(0, 2, 1, 0);
      due(1, x.fewest(0));
      ChoiceDesk y = Desks.yeses(8);
      y.start(0);
      for (int q = 0; q < 8; q++) y.wish(0, q, 1, 500);
      for (int q = 0; q < 8; q++) {
        due(q, y.fewest(0));
        y.choose(0, q, 0);
      }
      due(8, y.fewest(0));
    });
    told("-1;", () -> refusedOutside(0, 1, -1, Desks::busy, (x, o) -> x.fewest(o)));
    told("-4.", () -> {
      refused(-4, Desks::deadEnd, x -> x.fewest(0));
      ChoiceDesk x = wishing();
      Desks.breakAll(x, 0);
      due(-4, x.fewest(0));
    });
  }
}

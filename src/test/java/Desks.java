/** Desks that tests begin with. */
final class Desks {
  private Desks() {
  }

  static ChoiceDesk empty() {
    return new ChoiceDesk();
  }

  /** Book 0: ONE of 3 (name 50), YES (51), NUMBER of 4 from 10 (52): 24 ways. */
  static ChoiceDesk three() {
    ChoiceDesk x = new ChoiceDesk();
    x.question(0, 50, 0, 3, 0);
    x.question(0, 51, 1, 2, 0);
    x.question(0, 52, 2, 4, 10);
    return x;
  }

  /** Questions of YES in book 0, their names 0, 1, .. */
  static ChoiceDesk yeses(int n) {
    ChoiceDesk x = new ChoiceDesk();
    for (int q = 0; q < n; q++) x.question(0, q, 1, 2, 0);
    return x;
  }

  /** Seven of YES, and MANY of up to 3 things: 1024 ways, and order 0 with two choices. */
  static ChoiceDesk eight() {
    ChoiceDesk x = yeses(7);
    x.question(0, 7, 3, 303, 0);
    x.start(0);
    x.choose(0, 0, 1);
    x.choose(0, 7, 7);
    return x;
  }

  /** Book 0 has 20000 ways: 5, 5, 5, 5, 4, 8. */
  static ChoiceDesk mostWays() {
    ChoiceDesk x = new ChoiceDesk();
    for (int q = 0; q < 4; q++) x.question(0, q, 0, 5, 0);
    x.question(0, 4, 0, 4, 0);
    x.question(0, 5, 3, 303, 0);
    return x;
  }

  /** Book 0 has 10080 ways: 8, 7, 6, 6, 5. Twice that is the least number above 20000 that can be. */
  static ChoiceDesk halfOf20160() {
    ChoiceDesk x = new ChoiceDesk();
    x.question(0, 0, 3, 303, 0);
    x.question(0, 1, 3, 313, 0);
    x.question(0, 2, 0, 6, 0);
    x.question(0, 3, 2, 6, 0);
    x.question(0, 4, 0, 5, 0);
    return x;
  }

  /**
   * Something of everything. Book 0: ONE of 3, YES, NUMBER of 4 from 10, MANY of 3 (1 or 2 things);
   * ONE 2 asks for YES 1 (by table 0) and for thing 0, and the number is 12 at most. Order 0 has
   * ONE 2, then NUMBER 1; order 1 is order 0 carried to book 1, which lost both.
   */
  static ChoiceDesk busy() {
    ChoiceDesk x = three();
    x.question(0, 53, 3, 213, 0);
    x.question(1, 51, 1, 2, 0);
    x.question(1, 50, 0, 2, 0);
    x.table(0, 0, 1, -1);
    for (int i = 0; i < 5; i++) x.row(0, 0, i / 2, i == 4 ? 1 : i % 2, 0);
    x.saying(0, 8, 0, 0);
    x.saying(0, 7, 4, 12);
    x.saying(0, 1, 3, 0);
    x.saying(0, 0, 0, 2);
    x.saying(0, 5, 3, 2);
    x.rule(0, 0);
    x.rule(0, 1);
    x.rule(0, 4);
    x.turn(0, 2, 0);
    x.standard(0, 0, 1);
    x.standard(0, 3, 6);
    x.price(0, 0, 1, 500);
    x.price(0, 3, 5, -70);
    x.pair(0, 1, 21, 9000);
    x.step(0, 5, 12, 100000);
    x.start(0);
    x.choose(0, 0, 2);
    x.choose(0, 2, 1);
    x.wish(0, 1, 0, 7);
    x.wish(0, 3, 6, 5);
    x.carry(0, 1);
    x.keep(0, 1, 0, 1);
    x.keep(1, 3, 0, 0);
    x.keep(2, 4, 0, 0);
    x.keep(3, 1, 0, 0);
    return x;
  }

  /** Three questions, and no whole: order 0 chose ONE 2 before that. */
  static ChoiceDesk deadEnd() {
    ChoiceDesk x = three();
    x.start(0);
    x.choose(0, 0, 2);
    breakAll(x, 0);
    return x;
  }

  /** A rule that no way keeps. */
  static void breakAll(ChoiceDesk x, int book) {
    x.rule(book, x.saying(book, 7, 0, -1));
  }

  static ChoiceDesk fullOfSayings() {
    ChoiceDesk x = three();
    for (int i = 0; i < 48; i++) x.saying(0, 0, 2, i % 4);
    return x;
  }

  static ChoiceDesk fullOfTables() {
    ChoiceDesk x = three();
    for (int i = 0; i < 4; i++) x.table(0, i % 3, -1, -1);
    return x;
  }

  /** Table 0 of ONE has 20 rows, all of them 1, and is a rule. */
  static ChoiceDesk fullOfRows() {
    ChoiceDesk x = three();
    x.table(0, 0, -1, -1);
    x.saying(0, 8, 0, 0);
    x.rule(0, 0);
    for (int i = 0; i < 20; i++) x.row(0, 0, 1, 0, 0);
    return x;
  }

  /** Sayings 0 .. 16, of which 0 .. 15 are rules; all allow all but 16, that NUMBER is 10. */
  static ChoiceDesk fullOfRules() {
    ChoiceDesk x = three();
    for (int i = 0; i < 16; i++) x.saying(0, 7, 7, 100 + i);
    x.saying(0, 7, 4, 10);
    for (int i = 0; i < 16; i++) x.rule(0, i);
    return x;
  }

  static ChoiceDesk fullOfOrders() {
    ChoiceDesk x = three();
    for (int i = 0; i < 12; i++) x.start(i % 2);
    x.choose(0, 0, 1);
    return x;
  }

  static ChoiceDesk fullOfPairs() {
    ChoiceDesk x = three();
    for (int i = 0; i < 20; i++) x.pair(0, 1, 0, 3);
    return x;
  }

  static ChoiceDesk fullOfSteps() {
    ChoiceDesk x = three();
    for (int i = 0; i < 10; i++) x.step(0, 1, 2, 3);
    return x;
  }
}

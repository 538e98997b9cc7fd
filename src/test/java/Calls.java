/** Calls with one number left open, for desks on which the other numbers are right (Desks.busy). */
final class Calls {
  static final Sentences.AskBy[] BY_BOOK = {
    (x, b) -> x.question(b, 99, 0, 2, 0),
    (x, b) -> x.saying(b, 7, 0, 0),
    (x, b) -> x.table(b, 0, -1, -1),
    (x, b) -> x.row(b, 0, 0, 0, 0),
    (x, b) -> x.rule(b, 2),
    (x, b) -> x.drop(b, 0),
    (x, b) -> x.turn(b, 0, 0),
    (x, b) -> x.wholes(b),
    (x, b) -> x.size(b, 0),
    (x, b) -> x.size(b, -1),
    (x, b) -> x.dead(b, 0, 0),
    (x, b) -> x.needless(b, 0),
    (x, b) -> x.same(b, 0),
    (x, b) -> x.same(0, b),
    (x, b) -> x.start(b),
    (x, b) -> x.standard(b, 0, 0),
    (x, b) -> x.price(b, 0, 0, 1),
    (x, b) -> x.pair(b, 1, 0, 1),
    (x, b) -> x.step(b, 1, 0, 1),
    (x, b) -> x.carry(0, b),
    (x, b) -> x.count(b, 0),
    (x, b) -> x.count(b, 1),
    (x, b) -> x.count(b, 2),
    (x, b) -> x.count(b, 3),
    (x, b) -> x.count(b, 4),
    (x, b) -> x.count(b, 5),
    (x, b) -> x.keep(0, 1, b, 0),
    (x, b) -> x.keep(0, 4, b, 0),
  };

  static final Sentences.AskBy[] BY_QUESTION = {
    (x, q) -> x.saying(0, 0, q, 0),
    (x, q) -> x.saying(0, 1, q, 0),
    (x, q) -> x.table(0, q, -1, -1),
    (x, q) -> x.turn(0, q, 0),
    (x, q) -> x.dead(0, q, 1),
    (x, q) -> x.choose(0, q, 1),
    (x, q) -> x.back(0, q),
    (x, q) -> x.may(0, q, 1),
    (x, q) -> x.value(0, q),
    (x, q) -> x.why(0, q, 1),
    (x, q) -> x.standard(0, q, 1),
    (x, q) -> x.wish(0, q, 1, 1),
    (x, q) -> x.near(0, q),
    (x, q) -> x.price(0, q, 1, 1),
    (x, q) -> x.keep(0, 1, 0, q),
    (x, q) -> x.keep(0, 4, 0, q),
  };

  static final Sentences.AskBy[] BY_ORDER = {
    (x, o) -> x.choose(o, 0, 1),
    (x, o) -> x.back(o, 0),
    (x, o) -> x.may(o, 0, 1),
    (x, o) -> x.value(o, 0),
    (x, o) -> x.state(o, 0),
    (x, o) -> x.state(o, 1),
    (x, o) -> x.state(o, 2),
    (x, o) -> x.state(o, 3),
    (x, o) -> x.choice(o, 0),
    (x, o) -> x.why(o, 0, 1),
    (x, o) -> x.fill(o),
    (x, o) -> x.wish(o, 0, 1, 1),
    (x, o) -> x.nearest(o),
    (x, o) -> x.near(o, 0),
    (x, o) -> x.fewest(o),
    (x, o) -> x.carry(o, 1),
    (x, o) -> x.lost(o),
    (x, o) -> x.keep(0, 3, 0, o),
  };

  static final Sentences.AskBy[] BY_ORDER_THAT_THROW = {
    (x, o) -> x.cost(o),
    (x, o) -> x.limit(o, false),
    (x, o) -> x.limit(o, true),
  };

  /** By a value of question 1, which is of YES. */
  static final Sentences.AskBy[] BY_YES_VALUE = {
    (x, v) -> x.saying(0, 0, 1, v),
    (x, v) -> x.row(0, 0, 0, v, 0),
    (x, v) -> x.dead(0, 1, v),
    (x, v) -> x.choose(0, 1, v),
    (x, v) -> x.may(0, 1, v),
    (x, v) -> x.why(0, 1, v),
    (x, v) -> x.standard(0, 1, v),
    (x, v) -> x.wish(0, 1, v, 1),
    (x, v) -> x.price(0, 1, v, 1),
  };

  static final Sentences.AskBy[] BY_SHELF = {
    (x, d) -> x.keep(d, 0, 0, 0),
    (x, d) -> x.keep(d, 1, 0, 0),
    (x, d) -> x.keep(d, 3, 0, 0),
    (x, d) -> x.keep(d, 4, 0, 0),
    (x, d) -> x.make(d, 3, 1),
    (x, d) -> x.make(d, 4, 1),
    (x, d) -> x.copy(d, 0, 2, 0, 1),
    (x, d) -> x.copy(2, 0, d, 0, 1),
    (x, d) -> x.toss(d),
  };

  static final Sentences.AskBy[] BY_SHELF_THAT_THROW = {
    (x, d) -> x.element(d, 0),
    (x, d) -> x.weight(d),
  };

  private Calls() {
  }
}

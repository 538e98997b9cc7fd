import java.lang.management.ManagementFactory;

/**
 * The dearest runs of 512 calls that could be thought of: what they make must stay far below the
 * room of one run (7.3 million fields and elements, at eight bytes some 58 million bytes).
 */
public final class RoomTests {
  private static final long ROOM = 16_000_000L;
  private static int wrong = 0;
  private static long answers = 0;

  private interface Run {
    void go(ChoiceDesk x);
  }

  private static long made() {
    com.sun.management.ThreadMXBean threads = (com.sun.management.ThreadMXBean) ManagementFactory.getThreadMXBean();
    return threads.getThreadAllocatedBytes(Thread.currentThread().getId());
  }

  private static void measure(String name, Run run) {
    run.go(new ChoiceDesk());
    long before = made();
    run.go(new ChoiceDesk());
    long bytes = made() - before;
    System.out.println(name + ": " + bytes + " bytes");
    if (bytes > ROOM) {
      wrong++;
      System.out.println(name + " makes more than " + ROOM + " bytes");
    }
  }

  /** Each book gets 20000 ways: 5, 5, 5, 5, 4, 8. */
  private static void fullBooks(ChoiceDesk x) {
    for (int b = 0; b < 4; b++) {
      for (int q = 0; q < 4; q++) answers += x.question(b, q, 0, 5, 0);
      answers += x.question(b, 4, 2, 4, -3);
      answers += x.question(b, 5, 3, 303, 0);
    }
  }

  private static void sayings(ChoiceDesk x) {
    fullBooks(x);
    for (int i = 0; i < 48; i++) for (int b = 0; b < 4; b++) answers += x.saying(b, 7, 63, i / 2);
    for (int i = 0; i < 16; i++) for (int b = 0; b < 4; b++) answers += x.rule(b, 47 - i);
    for (int i = 0; i < 232; i++) answers += x.size(i % 4, -1) + x.turn(i % 4, i % 6, i % 5);
  }

  private static void orders(ChoiceDesk x) {
    fullBooks(x);
    for (int i = 0; i < 12; i++) answers += x.start(i % 4);
    for (int q = 0; q < 6; q++) for (int o = 0; o < 12; o++) answers += x.wish(o, q, 1, 1 + q);
    for (int i = 0; i < 10; i++) for (int b = 0; b < 4; b++) answers += x.step(b, 63, i, i) + x.pair(b, 1, i % 5, i);
    for (int i = 0; i < 50; i++) {
      answers += x.keep(i % 8, 3, 0, i % 12) + x.nearest(i % 12) + x.fewest(i % 12) + x.why(i % 12, 0, 0);
      answers += x.limit(i % 12, true) + x.price(i % 4, 0, 0, i) + x.make(i % 8, 4, 60);
    }
  }

  private static void refusals(ChoiceDesk x) {
    fullBooks(x);
    for (int i = 0; i < 488; i++) answers += x.question(i % 4, 9 + i, 3, 303, 0);
  }

  public static void main(String[] args) {
    measure("sayings", RoomTests::sayings);
    measure("orders", RoomTests::orders);
    measure("refusals", RoomTests::refusals);
    if (wrong != 0) System.exit(1);
  }
}

import java.lang.management.ManagementFactory;

/** What an object takes of the room that all calls of a run share: little at its making, once for part() and trees(), then none. */
public final class RoomTests extends Hand {
  private static final long MADE = 40_000, USED = 600_000, LATER = 4_000;
  private static final com.sun.management.ThreadMXBean BYTES =
      (com.sun.management.ThreadMXBean) ManagementFactory.getThreadMXBean();

  private static long taken(Runnable calls) {
    long id = Thread.currentThread().getId();
    long before = BYTES.getThreadAllocatedBytes(id);
    calls.run();
    return BYTES.getThreadAllocatedBytes(id) - before;
  }

  private static void most(String what, long got, long limit) {
    if (got > limit) report(what + " took " + got + " bytes, " + limit + " at most are due");
  }

  private static void fill(JoinBench x) {
    for (int i = 0; i < 40; i++) {
      x.feed(0x61616161, 0x61616161, 0, 0, 0);
      x.end(1 + i % 8);
      x.form(i % 6, i % 20, i, false);
    }
    for (int i = 0; i < 24; i++) {
      x.feed(0x61616161, 0x61616161, 0x61616161, 0, 0);
      x.end(i % 4 + 1 + i % 3 + i % 5);
      x.rule(i % 4, 1 + i % 3, i, 0, 999);
    }
    x.becomes(0, 0, 0);
    x.meets(5, 5, false);
  }

  /** The dearest calls, one of each. */
  private static void useOnce(JoinBench x) {
    x.feed(0x61616161, 0x61616161, 0x61616161, 0x61616161, 0x61616161);
    x.feed(0x61616161, 0x61616161, 0x61616161, 0x61616161, 0x61616161);
    x.part(0);
    for (int k = 0; k < 8; k++) x.trees(k, 0);
    x.choose(0);
    x.row(0);
    for (int i = 0; i < 10; i++) x.joins(i % 8, 0);
    x.joined();
    x.back();
    x.end(0);
    x.undo();
    x.fits(0, 1, 0);
    x.fitting(0, 1, 0, 3);
  }

  public static void main(String[] args) {
    ofPromise(1);
    taken(() -> useOnce(new JoinBench()));
    JoinBench[] x = new JoinBench[1];
    most("a new object", taken(() -> x[0] = new JoinBench()), MADE);
    most("forms, rules and the first use", taken(() -> { fill(x[0]); useOnce(x[0]); }), USED);
    due("all forms are there", x[0].count(0), 40);
    due("all rules are there", x[0].count(1), 24);
    most("later use", taken(() -> { for (int i = 0; i < 8; i++) useOnce(x[0]); }), LATER);
    System.out.println(wrong() == 0 ? "all is as due" : wrong() + " things are not as due");
    if (wrong() != 0) System.exit(1);
  }
}

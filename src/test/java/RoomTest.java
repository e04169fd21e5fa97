import java.lang.management.ManagementFactory;

/**
 * A run lives in one room: an object is made of few rows, and none of its calls makes an
 * object, however often it is called (the latest 8 of undo() go round).
 */
public final class RoomTest {
  private static final com.sun.management.ThreadMXBean THREADS =
    (com.sun.management.ThreadMXBean) ManagementFactory.getThreadMXBean();

  private static long sum = 0;

  public static void main(String[] args) {
    TrainingBook x = new TrainingBook();
    for (int i = 0; i < 50; i++) allCalls(x);
    long before = used();
    for (int i = 0; i < 50; i++) allCalls(x);
    long calls = used() - before;
    Check.due("50 times all calls made nothing (" + calls + " bytes)", calls < 4096, true);
    before = used();
    sum += new TrainingBook().count(0);
    long made = used() - before;
    Check.due("a new object is small (" + made + " bytes)", made < 64 * 1024, true);
    dearest();
    Check.finish();
  }

  private static long used() {
    return THREADS.getCurrentThreadAllocatedBytes();
  }

  // "group 9 9;plan 0 3 2 easy again 2(hard rest) race;" as numbers, so that nothing is made here either.
  private static void allCalls(TrainingBook x) {
    x.end(0);
    x.feed(0x67726f75, 0x70203920, 0x393b706c, 0x616e2030, 0x20332032);
    x.feed(0x20656173, 0x79206167, 0x61696e20, 0x32286861, 0x72642072);
    x.feed(0x65737429, 0x20726163, 0x653b2020, 0x20202020, 0x20202020);
    sum += x.tell() + x.fault() + x.group(50, 60) + x.camp(20, 30);
    x.load(3, 80 + (int) (sum & 1));
    x.set(4, 150 + (int) (sum & 1));
    sum += x.plan(0, 0, 50, (int) (sum & 3)) + x.day(0, 30, 7) + x.form(0, 60) + x.week(0, 9);
    sum += x.injured(0, 0, 69) + x.peak(0, 0, 69) + x.taper(0, 60) + x.best(0, 60, 4, 0) + x.team(60, 1);
    sum += x.safe(0, 60) + x.row(0, 0, 69) + x.swap(0, 60, 1, 2) + x.without(0, 60, 0) + x.ahead(0, 1, 0);
    sum += x.strike(0) + x.undo() + x.undo() + x.count(3) + (x.count(1) > 0 ? x.camped(0, true) : 0);
  }

  private static void dearest() {
    TrainingBook x = new TrainingBook();
    x.group(1000, 500);
    x.set(4, 400);
    for (int i = 0; i < 510; i++) sum += x.best(0, 69, 4, 1);
    Check.due("512 calls", x.best(0, 69, 0, 0), 0);
  }
}

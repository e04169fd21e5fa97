/** Promises 19 to 27 and Terms 2: what is looked for. */
public final class SearchTest {
  private static final int NO_FORM = -1000000000;
  private static final int[] NO_GROUPS = {-1, 2, 6, Integer.MAX_VALUE, Integer.MIN_VALUE};
  private static final int[] NO_DAYS = {-1, 70, Integer.MAX_VALUE, Integer.MIN_VALUE};

  public static void main(String[] args) {
    noSuchGroup();
    noSuchDay();
    peaks();
    tapers();
    bests();
    bestsWithInjuries();
    teams();
    safes();
    rows();
    swaps();
    withouts();
    aheads();
    Check.finish();
  }

  private static TrainingBook two() {
    TrainingBook x = new TrainingBook();
    x.group(1000, 500);
    x.group(2000, 100);
    x.camp(3, 9);
    return x;
  }

  private static void noSuchGroup() {
    TrainingBook x = two();
    for (int g : NO_GROUPS) {
      Check.due("peak", x.peak(g, 0, 1), -1);
      Check.due("taper", x.taper(g, 1), -1);
      Check.due("best 0", x.best(g, 1, 1, 0), NO_FORM);
      Check.due("best 1", x.best(g, 1, 1, 1), NO_FORM);
      Check.due("safe", x.safe(g, 1), -1);
      Check.due("row", x.row(g, 0, 1), -1);
      Check.due("swap", x.swap(g, 1, 0, 1), NO_FORM);
      Check.due("without", x.without(g, 1, 0), NO_FORM);
      Check.due("ahead", x.ahead(g, 0, 0), -1);
      Check.due("ahead of", x.ahead(1, g, 0), -1);
    }
  }

  private static void noSuchDay() {
    TrainingBook x = two();
    for (int d : NO_DAYS) {
      Check.due("peak from", x.peak(0, d, 69), -1);
      Check.due("peak to", x.peak(0, 0, d), -1);
      Check.due("taper", x.taper(0, d), -1);
      Check.due("best", x.best(0, d, 0, 1), NO_FORM);
      Check.due("team", x.team(d, 0), -1);
      Check.due("safe", x.safe(0, d), -1);
      Check.due("row from", x.row(0, d, 69), -1);
      Check.due("row to", x.row(0, 0, d), -1);
      Check.due("swap on", x.swap(0, d, 0, 1), NO_FORM);
      Check.due("swap a", x.swap(0, 0, d, 1), NO_FORM);
      Check.due("swap b", x.swap(0, 0, 1, d), NO_FORM);
      Check.due("without", x.without(0, d, 0), NO_FORM);
      Check.due("ahead", x.ahead(1, 0, d), -1);
    }
  }

  private static void peaks() {
    TrainingBook x = two();
    Check.due("b below a", x.peak(0, 5, 4), -1);
    Check.due("one day", x.peak(0, 69, 69), 69);
    int found = 0;
    for (int d = 1; d < 70; d++) if (x.form(0, d) > x.form(0, found)) found = d;
    Check.due("peak", x.peak(0, 0, 69), found);
    Check.due("falling behind it", x.peak(0, found + 1, 69), found + 1);
    Check.due("rising up to it", x.peak(0, 0, found), found);
    Check.due("rising by one", x.peak(0, found - 1, found), found);
    TrainingBook none = new TrainingBook();
    none.group(0, 0);
    Check.due("of several the first", none.peak(0, 7, 69), 7);
    none.plan(0, 7, 8, 1);
    Check.due("below 0", none.peak(0, 7, 8), 7);
    Check.due("the one ahead", none.peak(0, 6, 8), 6);
  }

  private static void tapers() {
    TrainingBook x = new TrainingBook();
    x.group(0, 0);
    Check.due("of several the least", x.taper(0, 30), 0);
    Check.due("on day 0", x.taper(0, 0), 0);
    x.plan(0, 0, 69, 3);
    x.set(4, 400);
    Check.due("not above d", x.taper(0, 5), 5);
    Check.due("one of one", x.taper(0, 1), 1);
    x.set(2, 1);
    x.set(3, 9);
    x.set(1, 99);
    x.set(0, 2);
    Check.due("not above 14", x.taper(0, 40), 14);
    x.set(2, 9);
    x.set(3, 1);
    x.set(0, 99);
    x.set(1, 2);
    Check.due("not at all", x.taper(0, 40), 0);
    x.set(0, 42);
    x.set(1, 7);
    x.set(2, 1);
    x.set(3, 2);
    Check.due("by trying", x.taper(0, 50), triedTaper(x, 50));
    x.set(4, 150);
    Check.due("by trying, with injuries", x.taper(0, 50), triedTaper(x, 50));
    Check.due("the plan stays", x.plan(0, 0, 69, 3), 0);
  }

  private static int triedTaper(TrainingBook x, int d) {
    int found = 0;
    int greatest = x.form(0, d);
    for (int n = 1; n <= Math.min(14, d); n++) {
      x.plan(0, d - n, d - 1, 0);
      int form = x.form(0, d);
      x.undo();
      if (form > greatest) {
        greatest = form;
        found = n;
      }
    }
    return found;
  }

  private static void bests() {
    TrainingBook x = two();
    Check.due("n -1", x.best(0, 9, -1, 0), NO_FORM);
    Check.due("n 5", x.best(0, 9, 5, 0), NO_FORM);
    Check.due("n above d", x.best(0, 3, 4, 0), NO_FORM);
    Check.due("n as d", x.best(0, 4, 4, 0), 0);
    Check.due("what -1", x.best(0, 9, 1, -1), NO_FORM);
    Check.due("what 2", x.best(0, 9, 1, 2), NO_FORM);
    Check.due("n 0", x.best(0, 9, 0, 0), 0);
    Check.due("n 0, form", x.best(0, 9, 0, 1), x.form(0, 9));
    x.set(2, 9);
    x.set(3, 1);
    Check.due("races", x.best(0, 9, 4, 0), 5555);
    Check.due("on the last day nothing is safe", x.best(0, 69, 4, 0), 0);
    x.set(4, 400);
    Check.due("on the last day all is safe", x.best(0, 69, 4, 0), 5555);
    Check.due("on the last day by none", x.best(0, 69, 0, 1), x.form(0, 69));
    x.set(4, 150);
    x.plan(0, 5, 8, 5);
    Check.due("their form", x.best(0, 9, 4, 1), x.form(0, 9));
    x.undo();
    x.load(5, 120);
    Check.due("long as well as race", x.best(0, 9, 4, 0), 4444);
    x.set(6, 0);
    Check.due("all alike", x.best(0, 9, 4, 0), 0);
    x.set(6, 400);
    Check.due("the first of those that the week allows", x.best(0, 7, 4, 0), triedBest(x, 7, 4));
    Check.due("the plan stays", x.plan(0, 0, 69, 0), 0);
  }

  private static int triedBest(TrainingBook x, int d, int n) {
    int rows = 1;
    for (int i = 0; i < n; i++) rows *= 6;
    int greatest = NO_FORM;
    int found = NO_FORM;
    for (int row = 0; row < rows; row++) {
      TrainingBook y = copyOf(x);
      int digits = 0;
      int rest = row;
      int ten = 1;
      for (int i = 1; i <= n; i++) {
        y.plan(0, d - i, d - i, rest % 6);
        digits += rest % 6 * ten;
        ten *= 10;
        rest /= 6;
      }
      if (y.injured(0, d - n, d) == 0 && y.form(0, d) > greatest) {
        greatest = y.form(0, d);
        found = digits;
      }
    }
    return found;
  }

  // Group 0's plan, all loads, settings and camps; what it began with is 1000 and 500.
  private static TrainingBook copyOf(TrainingBook x) {
    TrainingBook y = new TrainingBook();
    y.group(1000, 500);
    for (int d = 0; d < 70; d++) y.plan(0, d, d, x.day(0, d, 0));
    for (int kind = 1; kind < 6; kind++) y.load(kind, x.count(10 + kind));
    for (int s = 0; s < 8; s++) y.set(s, x.count(20 + s));
    for (int c = 0; c < x.count(1); c++) y.camp(x.camped(c, false), x.camped(c, true));
    return y;
  }

  private static void bestsWithInjuries() {
    TrainingBook x = two();
    x.set(2, 9);
    x.set(3, 1);
    x.plan(0, 0, 24, 1);
    x.plan(0, 25, 25, 3);
    Check.due("by trying", x.best(0, 24, 3, 0), triedBest(x, 24, 3));
    Check.due("by trying", x.best(0, 22, 3, 0), triedBest(x, 22, 3));
    Check.due("not all races", x.best(0, 24, 3, 0) < 555, true);
    x.plan(0, 0, 18, 0);
    x.plan(0, 19, 20, 3);
    Check.due("injured on 20", x.day(0, 20, 5), 1);
    Check.due("by no row", x.best(0, 20, 0, 0), NO_FORM);
    Check.due("by no row, form", x.best(0, 20, 0, 1), NO_FORM);
    Check.due("by no row of one", x.best(0, 20, 1, 0), NO_FORM);
    Check.due("hurt on 21, not injured", x.best(0, 21, 0, 0), 0);
    Check.due("hurt days are all alike", x.best(0, 24, 3, 0), 0);
    Check.due("form of these", x.best(0, 24, 3, 1), x.form(0, 24));
    Check.due("injured on 20 still", x.best(0, 24, 4, 0), triedBest(x, 24, 4));
  }

  private static void teams() {
    TrainingBook x = new TrainingBook();
    Check.due("none of none", x.team(0, 0), 0);
    Check.due("one of none", x.team(0, 1), -1);
    int[] fits = {100, 300, 200, 300, 9999, 0};
    for (int fit : fits) x.group(fit, 0);
    int[] due = {0, 16, 16 + 2, 16 + 2 + 8, 16 + 2 + 8 + 4, 16 + 2 + 8 + 4 + 1, 63};
    for (int k = 0; k <= 6; k++) Check.due("team of " + k, x.team(0, k), due[k]);
    Check.due("k 7", x.team(0, 7), -1);
    Check.due("k -1", x.team(0, -1), -1);
    Check.due("k MAX", x.team(0, Integer.MAX_VALUE), -1);
    Check.due("k MIN", x.team(0, Integer.MIN_VALUE), -1);
    x.plan(4, 68, 69, 5);
    Check.due("not on 68", x.team(68, 5) & 16, 0);
    Check.due("on 67 yet", x.team(67, 1), 16);
    TrainingBook low = new TrainingBook();
    for (int g = 0; g < 3; g++) low.group(0, 9999);
    low.set(3, 9);
    low.plan(0, 0, 0, 5);
    Check.due("all below 0", low.team(0, 1), 2);
    Check.due("all below 0, two", low.team(0, 2), 6);
  }

  private static void safes() {
    TrainingBook x = new TrainingBook();
    x.group(0, 0);
    Check.due("ahead of 20", x.safe(0, 19), 300);
    Check.due("on the last day", x.safe(0, 69), 0);
    Check.due("none ahead: nothing", x.safe(0, 20), 0);
    x.plan(0, 0, 69, 2);
    Check.due("not above 300", x.safe(0, 27), 300);
    // 400 * (360 + v) is above 135 * (1620 + v) from 282 on.
    x.set(4, 135);
    Check.due("27 days of 60 ahead", x.safe(0, 27), 281);
    Check.due("by trying", x.safe(0, 27), triedSafe(x, 27));
    x.camp(27, 27);
    Check.due("in a camp", x.safe(0, 27), triedSafe(x, 27));
    x.set(7, 299);
    Check.due("in a camp of 299", x.safe(0, 27), triedSafe(x, 27));
    x.set(6, 420);
    Check.due("held", x.safe(0, 27), 300);
    x.set(6, 2100);
    x.set(4, 400);
    Check.due("by 400", x.safe(0, 27), 300);
    x.set(4, 100);
    Check.due("hurt", x.day(0, 21, 4), 1);
    Check.due("safe if hurt", x.safe(0, 21), 300);
    Check.due("by none", x.safe(0, 20), -1);
    Check.due("the plan stays", x.plan(0, 0, 69, 2), 0);
  }

  // KIND 5 stands on that DAY alone, with one LOAD after the other.
  private static int triedSafe(TrainingBook x, int day) {
    x.plan(0, day, day, 5);
    int found = -1;
    for (int v = 0; v <= 300; v++) {
      x.load(5, v);
      if (x.day(0, day, 5) == 0) found = v;
    }
    x.undo();
    return found;
  }

  private static void rows() {
    TrainingBook x = new TrainingBook();
    x.group(0, 0);
    Check.due("none", x.row(0, 0, 69), 0);
    Check.due("b below a", x.row(0, 6, 5), -1);
    x.set(4, 400);
    x.plan(0, 3, 5, 1);
    x.plan(0, 10, 14, 1);
    x.plan(0, 69, 69, 1);
    Check.due("longest", x.row(0, 0, 69), 5);
    Check.due("first", x.row(0, 0, 9), 3);
    Check.due("within", x.row(0, 4, 11), 2);
    Check.due("one", x.row(0, 69, 69), 1);
    Check.due("none", x.row(0, 6, 9), 0);
    x.load(1, 1);
    Check.due("loads of 1", x.row(0, 0, 69), 5);
    x.load(1, 0);
    Check.due("loads of 0", x.row(0, 0, 69), 0);
    x.load(1, 100);
    x.set(6, 200);
    Check.due("held", x.row(0, 10, 14), 2);
    Check.due("all days", allDays(), 70);
  }

  private static int allDays() {
    TrainingBook x = new TrainingBook();
    x.group(0, 0);
    x.plan(0, 0, 69, 1);
    x.set(4, 400);
    return x.row(0, 0, 69);
  }

  private static void swaps() {
    TrainingBook x = two();
    x.plan(0, 2, 2, 5);
    x.plan(0, 4, 4, 1);
    Check.due("with itself", x.swap(0, 9, 2, 2), 0);
    Check.due("of one kind", x.swap(0, 9, 0, 1), 0);
    Check.due("behind that day", x.swap(0, 1, 2, 4), 0);
    int form = x.form(0, 9);
    int by = x.swap(0, 9, 2, 4);
    Check.due("either way", x.swap(0, 9, 4, 2), by);
    Check.due("as it was", x.form(0, 9), form);
    x.plan(0, 2, 2, 1);
    x.plan(0, 4, 4, 5);
    Check.due("by how much more", x.form(0, 9) - form, by);
    Check.due("it is less back", x.swap(0, 9, 2, 4), -by);
    Check.due("d on day 69", x.swap(0, 69, 69, 4) == 0, false);
    x.plan(0, 0, 0, 3);
    Check.due("day 0 becomes rest", x.swap(0, 0, 0, 1), 900);
  }

  private static void withouts() {
    TrainingBook x = two();
    x.camp(5, 6);
    x.plan(0, 0, 9, 3);
    int[] noCamps = {-1, 2, 4, Integer.MAX_VALUE, Integer.MIN_VALUE};
    for (int c : noCamps) Check.due("no such camp", x.without(0, 5, c), NO_FORM);
    Check.due("another one is there", x.without(0, 9, 1), 0);
    Check.due("ahead of it", x.without(0, 2, 0), 0);
    int form = x.form(0, 9);
    int by = x.without(0, 9, 0);
    x.strike(0);
    Check.due("by how much more", x.form(0, 9) - form, by);
    Check.due("of the other group", x.without(1, 9, 0), 0);
    Check.due("now alone", x.without(0, 6, 0) > 0, true);
    x.camp(0, 0);
    Check.due("on day 0", x.without(0, 0, 1), 450);
  }

  private static void aheads() {
    TrainingBook x = two();
    Check.due("at once", x.ahead(1, 0, 0), 0);
    Check.due("from 69", x.ahead(1, 0, 69), 69);
    Check.due("on none", x.ahead(0, 1, 0), -1);
    Check.due("of itself", x.ahead(0, 0, 0), -1);
    x.plan(1, 10, 12, 5);
    int first = 0;
    while (x.form(0, first) <= x.form(1, first)) first++;
    Check.due("first", x.ahead(0, 1, 0), first);
    Check.due("that is 10", first, 10);
    Check.due("from it", x.ahead(0, 1, 10), 10);
    Check.due("behind it", x.ahead(0, 1, 11), 11);
    int again = 10;
    while (x.form(1, again) <= x.form(0, again)) again++;
    Check.due("the other again", x.ahead(1, 0, 10), again);
  }
}

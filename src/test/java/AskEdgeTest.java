/** Promises 15 to 27: each sentence that names a boundary case, by a test of its own. */
public final class AskEdgeTest {
  private static final int NONE = -1;
  private static final int NO_FORM = -1000000000;
  private static final int[] NO_DAYS = {-1, 70, Integer.MAX_VALUE, Integer.MIN_VALUE};
  private static final int[] NO_GROUPS = {-1, 2, 6, Integer.MAX_VALUE, Integer.MIN_VALUE};

  public static void main(String[] args) {
    dayAndForm();
    weekAndInjured();
    peakAndTaper();
    best();
    team();
    safe();
    row();
    swap();
    without();
    ahead();
    Check.finish();
  }

  private static TrainingBook alone() {
    TrainingBook x = new TrainingBook();
    x.group(0, 0);
    return x;
  }

  /** Two groups; the second is fitter. */
  private static TrainingBook two() {
    TrainingBook x = new TrainingBook();
    x.group(1000, 500);
    x.group(2000, 100);
    return x;
  }

  private static void dayAndForm() {
    Check.edge("What 0: its KIND by the PLAN, 1: LOAD, 2: FIT, 3: TIRED (both as the DAY ends), 4: 1 it is HURT, 0 not, 5: 1 it is INJURED, 0 not, 6: ACUTE, 7: CHRONIC.", () -> {
      TrainingBook x = new TrainingBook();
      x.group(100, 100);
      x.plan(0, 20, 21, 3);
      x.plan(0, 0, 0, 1);
      whats(x, 0, 1, 30, 398, 386, 0, 0, 30, 30);
      int fit = 398;
      int tired = 386;
      for (int d = 1; d <= 20; d++) {
        fit -= fit / 42;
        tired -= tired / 7;
      }
      whats(x, 20, 3, 90, fit + 900, tired + 900, 0, 1, 90, 120);
      whats(x, 21, 3, 0, fit + 900 - (fit + 900) / 42, tired + 900 - (tired + 900) / 7, 1, 0, 90, 120);
      TrainingBook y = alone();
      y.plan(0, 69, 69, 1);
      whats(y, 69, 1, 30, 300, 300, 0, 1, 30, 30);
    });
    Check.edge("NONE for another what, too.", () -> {
      TrainingBook x = two();
      for (int what : new int[] {-1, 8, 9, Integer.MAX_VALUE, Integer.MIN_VALUE}) Check.due("what " + what, x.day(0, 0, what), NONE);
    });
    Check.edge("of a GROUP on a DAY; NONE: there are none such", () -> {
      TrainingBook x = two();
      for (int what = 0; what < 8; what++) {
        for (int g : NO_GROUPS) Check.due("group " + g, x.day(g, 0, what), NONE);
        for (int d : NO_DAYS) Check.due("day " + d, x.day(1, d, what), NONE);
      }
      for (int what = 2; what < 4; what++) Check.due("group 1 on 69", x.day(1, 69, what) >= 0, true);
    });
    Check.edge("FORM; NO_FORM: there are none such.", () -> {
      TrainingBook x = two();
      for (int g : NO_GROUPS) Check.due("group " + g, x.form(g, 0), NO_FORM);
      for (int d : NO_DAYS) Check.due("day " + d, x.form(0, d), NO_FORM);
      Check.due("day 0", x.form(0, 0), 977 - 2 * 429);
      x.plan(0, 69, 69, 5);
      Check.due("day 69", x.form(0, 69) < -1, true);
      Check.due("-1 is a form as well", minusOne(), -1);
    });
  }

  private static void whats(TrainingBook x, int day, int... due) {
    for (int what = 0; what < due.length; what++) Check.due("day " + day + " what " + what, x.day(0, day, what), due[what]);
  }

  // FIT 1, TIRED 1: less than SLOW and FAST, so they stay.
  private static int minusOne() {
    TrainingBook x = new TrainingBook();
    x.group(1, 1);
    return x.form(0, 0);
  }

  private static void weekAndInjured() {
    Check.edge("LOADS of a WEEK (0 to 9) together.", () -> {
      TrainingBook x = two();
      for (int w : new int[] {-1, 10, 70, 613566757, Integer.MAX_VALUE, Integer.MIN_VALUE}) Check.due("week " + w, x.week(0, w), NONE);
      for (int g : NO_GROUPS) Check.due("group " + g, x.week(g, 0), NONE);
      x.set(4, 400);
      x.plan(0, 0, 0, 1);
      x.plan(0, 6, 7, 2);
      x.plan(0, 63, 63, 3);
      x.plan(0, 69, 69, 4);
      Check.due("week 0", x.week(0, 0), 90);
      Check.due("week 1", x.week(0, 1), 60);
      Check.due("week 8", x.week(0, 8), 0);
      Check.due("week 9", x.week(0, 9), 210);
      x.set(6, 80);
      Check.due("as they are held", x.week(0, 0), 80);
    });
    Check.edge("How often it is INJURED on DAYS a to b.", () -> {
      TrainingBook x = alone();
      x.plan(0, 20, 69, 5);
      x.set(5, 14);
      int[] due = {20, 35, 50, 65};
      for (int d : due) {
        Check.due("on " + d, x.injured(0, d, d), 1);
        Check.due("ahead of it and on it", x.injured(0, d - 1, d), 1);
        Check.due("on it and behind it", x.injured(0, d, d + 1), 1);
        Check.due("ahead of it", x.injured(0, d - 14, d - 1), 0);
      }
      Check.due("in all", x.injured(0, 0, 69), 4);
      Check.due("days 20 to 65", x.injured(0, 20, 65), 4);
      Check.due("days 21 to 64", x.injured(0, 21, 64), 2);
      Check.due("days 0 to 0", x.injured(0, 0, 0), 0);
    });
    Check.edge("How often it is INJURED on DAYS a to b. NONE: b is below a, too.", () -> {
      TrainingBook x = two();
      Check.due("b one below a", x.injured(0, 20, 19), NONE);
      Check.due("b far below a", x.injured(0, 69, 0), NONE);
      for (int g : NO_GROUPS) Check.due("group " + g, x.injured(g, 0, 69), NONE);
      for (int d : NO_DAYS) {
        Check.due("from " + d, x.injured(0, d, 69), NONE);
        Check.due("to " + d, x.injured(0, 0, d), NONE);
        Check.due("both " + d, x.injured(0, d, d), NONE);
      }
    });
  }

  private static void peakAndTaper() {
    Check.edge("PEAK of DAYS a to b. NONE: likewise.", () -> {
      TrainingBook x = two();
      Check.due("b one below a", x.peak(0, 20, 19), NONE);
      Check.due("b far below a", x.peak(0, 69, 0), NONE);
      for (int g : NO_GROUPS) Check.due("group " + g, x.peak(g, 0, 69), NONE);
      for (int d : NO_DAYS) {
        Check.due("from " + d, x.peak(0, d, 69), NONE);
        Check.due("to " + d, x.peak(0, 0, d), NONE);
        Check.due("both " + d, x.peak(0, d, d), NONE);
      }
      Check.due("day 0 alone", x.peak(0, 0, 0), 0);
      Check.due("day 69 alone", x.peak(0, 69, 69), 69);
      x.plan(0, 0, 68, 5);
      Check.due("on the last", x.peak(0, 60, 69), 69);
      x.plan(0, 0, 68, 0);
      x.plan(0, 8, 8, 5);
      x.plan(0, 10, 10, 5);
      Check.due("in the midst", x.peak(0, 8, 10), 9);
      TrainingBook fresh = new TrainingBook();
      fresh.group(9999, 0);
      Check.due("on the first", fresh.peak(0, 5, 69), 5);
    });
    Check.edge("TAPER of a DAY.", () -> {
      TrainingBook x = two();
      for (int g : NO_GROUPS) Check.due("group " + g, x.taper(g, 0), NONE);
      for (int d : NO_DAYS) Check.due("day " + d, x.taper(0, d), NONE);
      x.plan(0, 0, 0, 5);
      Check.due("day 0: none is ahead", x.taper(0, 0), 0);
      Check.due("day 1", x.taper(0, 1), 1);
      Check.due("the day itself stays as it is", x.taper(0, 0) + x.taper(1, 0), 0);
      Check.due("the plan stays", x.day(0, 0, 0), 5);
    });
    Check.edge("were the n DAYS ahead of d rest, FORM on d is greatest", () -> {
      TrainingBook x = alone();
      x.plan(0, 20, 20, 5);
      x.plan(0, 22, 22, 5);
      Check.due("hurt on 22 anyhow: rest on 20 brings both more and less", x.taper(0, 22), triedTaper(x, 22));
      x.plan(0, 0, 69, 1);
      for (int d = 0; d < 70; d += 23) Check.due("taper of " + d, x.taper(0, d), triedTaper(x, d));
    });
  }

  private static int triedTaper(TrainingBook x, int d) {
    int found = 0;
    int greatest = x.form(0, d);
    for (int n = 1; n <= 14 && n <= d; n++) {
      boolean done = x.plan(0, d - n, d - 1, 0) > 0;
      if (x.form(0, d) > greatest) {
        greatest = x.form(0, d);
        found = n;
      }
      if (done) x.undo();
    }
    return found;
  }

  private static void best() {
    Check.edge("what 0: KINDS as digits of a number (that of the first DAY the highest; n 0: 0), 1: FORM.", () -> {
      TrainingBook x = alone();
      x.set(2, 9);
      x.set(3, 1);
      Check.due("n 0", x.best(0, 8, 0, 0), 0);
      Check.due("n 0, form", x.best(0, 8, 0, 1), 0);
      Check.due("n 1", x.best(0, 8, 1, 0), 5);
      Check.due("n 4", x.best(0, 8, 4, 0), 5555);
      // A race on day 0 leaves 30 of its week for day 6; the week of day 7 has all.
      x.set(6, 230);
      x.plan(0, 0, 0, 5);
      Check.due("easy on 6, race on 7", x.best(0, 8, 2, 0), 15);
      int form = x.best(0, 8, 2, 1);
      x.plan(0, 6, 6, 1);
      x.plan(0, 7, 7, 5);
      Check.due("its form", x.form(0, 8), form);
      x.set(6, 200);
      Check.due("rest on 6: a 0 ahead of the number", x.best(0, 8, 2, 0), 5);
    });
    Check.edge("NO_FORM: there are none such, n can't be, another what, by no row.", () -> {
      TrainingBook x = two();
      for (int what = 0; what < 2; what++) {
        for (int g : NO_GROUPS) Check.due("group " + g, x.best(g, 9, 1, what), NO_FORM);
        for (int d : NO_DAYS) Check.due("day " + d, x.best(0, d, 0, what), NO_FORM);
        for (int n : new int[] {-1, 5, 6, Integer.MAX_VALUE, Integer.MIN_VALUE}) Check.due("n " + n, x.best(0, 9, n, what), NO_FORM);
        for (int d = 0; d < 4; d++) Check.due("n above " + d, x.best(0, d, d + 1, what), NO_FORM);
        for (int d = 0; d <= 4; d++) Check.due("n as " + d, x.best(0, d, d, what) == NO_FORM, false);
      }
      for (int what : new int[] {-1, 2, Integer.MAX_VALUE, Integer.MIN_VALUE}) Check.due("what " + what, x.best(0, 9, 1, what), NO_FORM);
    });
    Check.edge("by no row", () -> {
      TrainingBook x = alone();
      x.plan(0, 14, 20, 5);
      for (int what = 0; what < 2; what++) {
        Check.due("injured on 20, n 0", x.best(0, 20, 0, what), NO_FORM);
        Check.due("injured on 20, n 4", x.best(0, 20, 4, what), NO_FORM);
        Check.due("injured on 20 by the days ahead", x.best(0, 21, 1, what), NO_FORM);
        Check.due("hurt on 21, so not injured", x.best(0, 21, 0, what) == NO_FORM, false);
      }
    });
    Check.edge("KINDS of the n DAYS ahead of d by which FORM on d is greatest", () -> {
      TrainingBook x = two();
      x.plan(0, 0, 69, 1);
      int before = x.form(0, 69);
      x.best(0, 69, 4, 0);
      Check.due("the plan stays", x.plan(0, 0, 69, 1), 0);
      Check.due("form stays", x.form(0, 69), before);
      x.plan(0, 65, 68, 5);
      Check.due("what stood on these days is nothing to it", x.best(0, 69, 4, 1), bestOfEasy());
      x.set(4, 400);
      x.plan(0, 69, 69, 5);
      Check.due("the day itself stays as it is", x.best(0, 69, 0, 1), x.form(0, 69));
    });
  }

  private static int bestOfEasy() {
    TrainingBook x = two();
    x.plan(0, 0, 69, 1);
    return x.best(0, 69, 4, 1);
  }

  private static void team() {
    Check.edge("TEAM of a DAY, of k: GROUPS as bits.", () -> {
      TrainingBook x = new TrainingBook();
      int[] fits = {3000, 1000, 5000, 0, 2000, 4000};
      for (int fit : fits) x.group(fit, 0);
      int[] due = {0, 4, 4 + 32, 4 + 32 + 1, 4 + 32 + 1 + 16, 4 + 32 + 1 + 16 + 2, 63};
      for (int k = 0; k <= 6; k++) Check.due("of " + k, x.team(0, k), due[k]);
      for (int k = 0; k <= 6; k++) Check.due("on 69, of " + k, x.team(69, k), due[k]);
      x.plan(2, 69, 69, 5);
      Check.due("by the day", x.team(69, 1), 32);
      Check.due("on the day ahead", x.team(68, 1), 4);
    });
    Check.edge("NONE: no such DAY, not so many GROUPS, k is below 0.", () -> {
      TrainingBook x = new TrainingBook();
      for (int groups = 0; groups <= 6; groups++) {
        for (int d : NO_DAYS) Check.due("day " + d, x.team(d, 0), NONE);
        Check.due("all of " + groups, x.team(0, groups), (1 << groups) - 1);
        Check.due("one more than " + groups, x.team(0, groups + 1), NONE);
        for (int k : new int[] {-1, 7, Integer.MAX_VALUE, Integer.MIN_VALUE}) Check.due("k " + k, x.team(0, k), NONE);
        x.group(0, 0);
      }
    });
  }

  private static void safe() {
    Check.edge("SAFE. NONE: by none, there are none such.", () -> {
      TrainingBook x = two();
      for (int g : NO_GROUPS) Check.due("group " + g, x.safe(g, 0), NONE);
      for (int d : NO_DAYS) Check.due("day " + d, x.safe(0, d), NONE);
      x.plan(0, 14, 19, 3);
      Check.due("by none", x.safe(0, 20), NONE);
      Check.due("ahead of 20 it is never injured", x.safe(0, 19), 300);
      Check.due("on 0", x.safe(0, 0), 300);
      Check.due("on 69", x.safe(1, 69), 0);
    });
    Check.edge("(A LOAD is held to what ALLOWED leaves, in CAMPS put up; it is 0 if HURT.)", () -> {
      TrainingBook x = alone();
      x.plan(0, 0, 19, 1);
      Check.due("72", x.safe(0, 20), 72);
      x.set(6, 252);
      Check.due("72 is left, so more is as safe", x.safe(0, 20), 300);
      x.set(6, 253);
      Check.due("73 is left", x.safe(0, 20), 72);
      x.set(6, 180);
      Check.due("nothing is left", x.safe(0, 20), 300);
      x.set(6, 2100);
      x.camp(20, 20);
      Check.due("48 times 150 by 100", x.safe(0, 20), 48);
      x.set(7, 100);
      Check.due("by 100", x.safe(0, 20), 72);
      x.set(7, 300);
      Check.due("by 300", x.safe(0, 20), 24);
      x.set(7, 101);
      Check.due("72 times 101 by 100, cut", x.safe(0, 20), 72);
      x.plan(0, 20, 20, 5);
      Check.due("injured on 20", x.day(0, 20, 5), 1);
      for (int d = 21; d <= 25; d++) Check.due("hurt on " + d, x.safe(0, d), 300);
      Check.due("healed on 26", x.safe(0, 26) < 300, true);
    });
  }

  private static void row() {
    Check.edge("ROW of DAYS a to b.", () -> {
      TrainingBook x = alone();
      Check.due("all at rest", x.row(0, 0, 69), 0);
      x.set(4, 400);
      x.plan(0, 0, 69, 1);
      Check.due("all", x.row(0, 0, 69), 70);
      Check.due("day 0", x.row(0, 0, 0), 1);
      Check.due("day 69", x.row(0, 69, 69), 1);
      x.plan(0, 35, 35, 0);
      Check.due("the first half", x.row(0, 0, 69), 35);
      Check.due("the other half", x.row(0, 1, 69), 34);
      x.plan(0, 34, 34, 0);
      Check.due("now as long: 34", x.row(0, 0, 69), 34);
      Check.due("the last one of a row", x.row(0, 33, 36), 1);
      Check.due("none", x.row(0, 34, 35), 0);
      x.set(4, 150);
      x.plan(0, 0, 19, 0);
      x.plan(0, 20, 69, 1);
      Check.due("hurt ends a row", x.row(0, 0, 25), 1);
    });
    Check.edge("ROW of DAYS a to b. NONE: there are none such, b is below a.", () -> {
      TrainingBook x = two();
      Check.due("b one below a", x.row(0, 20, 19), NONE);
      Check.due("b far below a", x.row(0, 69, 0), NONE);
      for (int g : NO_GROUPS) Check.due("group " + g, x.row(g, 0, 69), NONE);
      for (int d : NO_DAYS) {
        Check.due("from " + d, x.row(0, d, 69), NONE);
        Check.due("to " + d, x.row(0, 0, d), NONE);
        Check.due("both " + d, x.row(0, d, d), NONE);
      }
    });
  }

  private static void swap() {
    Check.edge("By how much FORM on a DAY d would be more, if KINDS of DAYS a, b changed places.", () -> {
      TrainingBook x = alone();
      x.plan(0, 0, 0, 1);
      x.plan(0, 69, 69, 3);
      Check.due("hard on 0 in place of easy", x.swap(0, 0, 0, 69), -900 + 300);
      Check.due("either way", x.swap(0, 0, 69, 0), -900 + 300);
      Check.due("rest on 0 in place of easy", x.swap(0, 0, 0, 1), 300);
      Check.due("a day with itself", x.swap(0, 69, 69, 69), 0);
      Check.due("days of one kind", x.swap(0, 69, 1, 2), 0);
      Check.due("both behind d", x.swap(0, 68, 69, 69), 0);
      Check.due("the first of them is d, the other behind", x.swap(0, 1, 1, 69), -900);
      Check.due("both behind d, of two kinds", x.swap(0, 67, 68, 69), 0);
      Check.due("as the plan says it", x.swap(0, 69, 0, 69), swapped(x));
      Check.due("the plan stays", x.day(0, 0, 0) * 10 + x.day(0, 69, 0), 13);
    });
    Check.edge("if KINDS of DAYS a, b changed places. NO_FORM: there are none such.", () -> {
      TrainingBook x = two();
      for (int g : NO_GROUPS) Check.due("group " + g, x.swap(g, 0, 0, 0), NO_FORM);
      for (int d : NO_DAYS) {
        Check.due("on " + d, x.swap(0, d, 0, 1), NO_FORM);
        Check.due("of " + d, x.swap(0, 0, d, 1), NO_FORM);
        Check.due("with " + d, x.swap(0, 0, 1, d), NO_FORM);
        Check.due("all " + d, x.swap(0, d, d, d), NO_FORM);
      }
    });
  }

  private static int swapped(TrainingBook x) {
    int before = x.form(0, 69);
    x.plan(0, 0, 0, 3);
    x.plan(0, 69, 69, 1);
    int by = x.form(0, 69) - before;
    x.undo();
    x.undo();
    return by;
  }

  private static void without() {
    Check.edge("By how much FORM on a DAY would be more, were a CAMP not there.", () -> {
      TrainingBook x = alone();
      x.plan(0, 0, 0, 3);
      x.plan(0, 69, 69, 3);
      x.camp(0, 0);
      x.camp(69, 69);
      Check.due("on 0", x.without(0, 0, 0), 450);
      Check.due("a camp behind that day", x.without(0, 68, 1), 0);
      Check.due("on 69", x.without(0, 69, 1), 450);
      x.set(7, 100);
      Check.due("a camp that weighs no more", x.without(0, 0, 0), 0);
      x.set(7, 150);
      x.set(2, 9);
      x.set(3, 1);
      Check.due("it may be less", x.without(0, 0, 0), -8 * 450);
      x.camp(0, 5);
      Check.due("there is another one on that day", x.without(0, 0, 0), 0);
      Check.due("nor is it by the other alone", x.without(0, 0, 2), 0);
      Check.due("the camps stay", x.count(1), 3);
      Check.due("the last of four", lastOfFour(x), -8 * 450);
    });
    Check.edge("were a CAMP not there. NO_FORM: there are none such.", () -> {
      TrainingBook x = two();
      Check.due("no camps", x.without(0, 0, 0), NO_FORM);
      for (int camps = 1; camps <= 4; camps++) {
        x.camp(0, 69);
        Check.due("the last one", x.without(0, 0, camps - 1), 0);
        for (int c : new int[] {-1, camps, 4, Integer.MAX_VALUE, Integer.MIN_VALUE}) Check.due("camp " + c, x.without(0, 0, c), NO_FORM);
      }
      for (int g : NO_GROUPS) Check.due("group " + g, x.without(g, 0, 0), NO_FORM);
      for (int d : NO_DAYS) Check.due("day " + d, x.without(0, d, 0), NO_FORM);
    });
  }

  private static int lastOfFour(TrainingBook x) {
    x.plan(0, 10, 10, 3);
    x.camp(10, 10);
    return x.without(0, 10, 3);
  }

  private static void ahead() {
    Check.edge("The first DAY from d on, on which a GROUP's FORM is above another one's.", () -> {
      TrainingBook x = alone();
      x.group(0, 0);
      x.plan(1, 30, 30, 1);
      Check.due("first", x.ahead(0, 1, 0), 30);
      Check.due("from 29", x.ahead(0, 1, 29), 30);
      Check.due("from 30", x.ahead(0, 1, 30), 30);
      Check.due("from 31", x.ahead(0, 1, 31), 31);
      Check.due("on 36 it has 263 and 121", x.ahead(1, 0, 0), 36);
      Check.due("from 36", x.ahead(1, 0, 36), 36);
      Check.due("from 69", x.ahead(1, 0, 69), 69);
      x.plan(0, 69, 69, 1);
      x.plan(1, 30, 30, 0);
      Check.due("on the last day", x.ahead(1, 0, 0), 69);
    });
    Check.edge("above another one's. NONE: on none, there are none such.", () -> {
      TrainingBook x = two();
      Check.due("on none", x.ahead(0, 1, 0), NONE);
      Check.due("on none from 69", x.ahead(0, 1, 69), NONE);
      Check.due("of itself: as much is not above", x.ahead(1, 1, 0), NONE);
      TrainingBook alike = alone();
      alike.group(0, 0);
      Check.due("as much is not above", alike.ahead(0, 1, 0), NONE);
      for (int g : NO_GROUPS) {
        Check.due("group " + g, x.ahead(g, 0, 0), NONE);
        Check.due("other " + g, x.ahead(1, g, 0), NONE);
        Check.due("both " + g, x.ahead(g, g, 0), NONE);
      }
      for (int d : NO_DAYS) Check.due("from " + d, x.ahead(1, 0, d), NONE);
    });
  }
}

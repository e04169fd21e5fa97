/** Terms 1 and 2: each sentence that names a boundary case, by a test of its own. */
public final class TermsEdgeTest {
  private static final int NONE = -1;
  private static final int NO_FORM = -1000000000;
  private static final int[] NO_DAYS = {-1, 70, 71, 140, Integer.MAX_VALUE, Integer.MIN_VALUE};

  public static void main(String[] args) {
    groupsKindsAndCamps();
    settings();
    dayByDay();
    injuries();
    lookedFor();
    Check.finish();
  }

  private static TrainingBook alone() {
    TrainingBook x = new TrainingBook();
    x.group(0, 0);
    return x;
  }

  private static void groupsKindsAndCamps() {
    Check.edge("GROUPS, at most 6, numbered from 0 on as they came", () -> {
      TrainingBook x = new TrainingBook();
      for (int g = 0; g < 6; g++) Check.due("group " + g, x.group(1000 * g, 0), g);
      Check.due("a 7th", x.group(0, 0), -2);
      Check.due("how many", x.count(0), 6);
      for (int g = 0; g < 6; g++) Check.due("fit of " + g, x.day(g, 0, 2), 1000 * g - 1000 * g / 42);
      Check.due("a 7th is none to ask for", x.day(6, 0, 2), NONE);
    });
    Check.edge("FIT, TIRED as DAY 0 begins, 0 to 9999 each", () -> {
      TrainingBook x = new TrainingBook();
      Check.due("fit -1", x.group(-1, 0), NONE);
      Check.due("fit 10000", x.group(10000, 0), NONE);
      Check.due("tired -1", x.group(0, -1), NONE);
      Check.due("tired 10000", x.group(0, 10000), NONE);
      Check.due("0, 0", x.group(0, 0), 0);
      Check.due("9999, 9999", x.group(9999, 9999), 1);
      Check.due("fit as day 0 ends", x.day(1, 0, 2), 9999 - 238);
      Check.due("tired as day 0 ends", x.day(1, 0, 3), 9999 - 1428);
      Check.due("0 stays 0", x.day(0, 69, 2) + x.day(0, 69, 3), 0);
    });
    Check.edge("DAYS 0 to 69", TermsEdgeTest::daysOfAllCalls);
    Check.edge("WEEK: a DAY by 7, cut", () -> {
      for (int day = 0; day < 70; day++) {
        TrainingBook x = alone();
        x.plan(0, day, day, 1);
        for (int week = 0; week < 10; week++) {
          Check.due("week " + week + " by day " + day, x.week(0, week), week * 7 <= day && day <= week * 7 + 6 ? 30 : 0);
        }
      }
    });
    Check.edge("KINDS by numbers and names: 0 rest, 1 easy, 2 steady, 3 hard, 4 long, 5 race", () -> {
      TrainingBook x = alone();
      Check.told(x, "plan 0 0 rest easy steady hard long race;", 1);
      for (int kind = 0; kind < 6; kind++) Check.due("kind of day " + kind, x.day(0, kind, 0), kind);
      for (int kind = 0; kind < 6; kind++) Check.due("plan of " + kind, x.plan(0, 10 + kind, 10 + kind, kind), kind == 0 ? 0 : 1);
      Check.due("kind -1", x.plan(0, 0, 0, -1), NONE);
      Check.due("kind 6", x.plan(0, 0, 0, 6), NONE);
    });
    Check.edge("each with a LOAD 0 to 300", () -> {
      for (int kind = 1; kind < 6; kind++) {
        TrainingBook x = alone();
        x.plan(0, 0, 0, kind);
        Check.due("-1", x.load(kind, -1), false);
        Check.due("301", x.load(kind, 301), false);
        Check.due("0", x.load(kind, 0), true);
        Check.due("load of the day", x.day(0, 0, 1), 0);
        Check.due("300", x.load(kind, 300), true);
        Check.due("load of the day", x.day(0, 0, 1), 300);
      }
    });
    Check.edge("(at first 0, 30, 60, 90, 120, 200; that of rest is always 0)", () -> {
      TrainingBook x = alone();
      int[] first = {0, 30, 60, 90, 120, 200};
      for (int kind = 0; kind < 6; kind++) Check.due("load of " + kind, x.count(10 + kind), first[kind]);
      for (int v : new int[] {-1, 0, 1, 300, 301}) Check.due("rest, " + v, x.load(0, v), false);
      Check.faulty(x, "load rest 5;", 1, 5);
      Check.due("it is 0", x.count(10) + x.day(0, 0, 1), 0);
    });
    Check.edge("A GROUP's PLAN: a KIND for each DAY (rest at first)", () -> {
      TrainingBook x = new TrainingBook();
      for (int g = 0; g < 6; g++) {
        x.group(0, 0);
        Check.due("all of " + g + " are rest", x.plan(g, 0, 69, 0), 0);
        x.plan(g, 0, 69, 5);
      }
      TrainingBook again = alone();
      again.plan(0, 0, 69, 5);
      again.undo();
      again.undo();
      Check.due("one that comes in another's place", again.group(1, 1), 0);
      Check.due("is at rest", again.plan(0, 0, 69, 0), 0);
    });
    Check.edge("CAMPS, at most 4, as they came: DAYS a to b", () -> {
      TrainingBook x = alone();
      x.plan(0, 0, 69, 1);
      int[][] camps = {{60, 69}, {0, 0}, {5, 7}, {5, 7}};
      for (int c = 0; c < 4; c++) Check.due("camp " + c, x.camp(camps[c][0], camps[c][1]), c);
      Check.due("a 5th", x.camp(1, 1), -2);
      Check.due("how many", x.count(1), 4);
      for (int c = 0; c < 4; c++) Check.due("its first", x.camped(c, false), camps[c][0]);
      for (int c = 0; c < 4; c++) Check.due("its last", x.camped(c, true), camps[c][1]);
      int[] loads = {45, 30, 30, 30, 30, 45, 45, 45, 30};
      for (int d = 0; d < loads.length; d++) Check.due("load on " + d, x.day(0, d, 1), loads[d]);
      Check.due("load on 59", x.day(0, 59, 1), 30);
      Check.due("load on 60", x.day(0, 60, 1), 45);
      Check.due("load on 69", x.day(0, 69, 1), 45);
    });
  }

  private static void daysOfAllCalls() {
    TrainingBook x = alone();
    x.group(0, 0);
    x.camp(0, 69);
    for (int d : NO_DAYS) {
      Check.due("camp from " + d, x.camp(d, 69), NONE);
      Check.due("camp to " + d, x.camp(0, d), NONE);
      Check.due("camp of " + d, x.camp(d, d), NONE);
      Check.due("plan from " + d, x.plan(0, d, 69, 1), NONE);
      Check.due("plan to " + d, x.plan(0, 0, d, 1), NONE);
      Check.due("plan of " + d, x.plan(0, d, d, 1), NONE);
      Check.due("day " + d, x.day(0, d, 0), NONE);
      Check.due("form " + d, x.form(0, d), NO_FORM);
      Check.due("injured from " + d, x.injured(0, d, 69), NONE);
      Check.due("injured to " + d, x.injured(0, 0, d), NONE);
      Check.due("peak from " + d, x.peak(0, d, 69), NONE);
      Check.due("peak to " + d, x.peak(0, 0, d), NONE);
      Check.due("taper " + d, x.taper(0, d), NONE);
      Check.due("best " + d, x.best(0, d, 0, 0), NO_FORM);
      Check.due("team " + d, x.team(d, 1), NONE);
      Check.due("safe " + d, x.safe(0, d), NONE);
      Check.due("row from " + d, x.row(0, d, 69), NONE);
      Check.due("row to " + d, x.row(0, 0, d), NONE);
      Check.due("swap on " + d, x.swap(0, d, 0, 1), NO_FORM);
      Check.due("swap of " + d, x.swap(0, 0, d, 1), NO_FORM);
      Check.due("swap with " + d, x.swap(0, 0, 1, d), NO_FORM);
      Check.due("without " + d, x.without(0, d, 0), NO_FORM);
      Check.due("ahead " + d, x.ahead(0, 1, d), NONE);
    }
    for (int d = 0; d < 70; d += 69) {
      Check.due("plan of " + d, x.plan(0, d, d, 1), 1);
      Check.due("day " + d, x.day(0, d, 0), 1);
      Check.due("form " + d, x.form(0, d) == NO_FORM, false);
      Check.due("injured on " + d, x.injured(0, d, d), d == 0 ? 0 : 1);
      Check.due("peak of " + d, x.peak(0, d, d), d);
      Check.due("taper " + d, x.taper(1, d), 0);
      Check.due("best " + d, x.best(1, d, 0, 0), 0);
      Check.due("team " + d, x.team(d, 1), 2);
      Check.due("safe " + d, x.safe(1, d), d == 0 ? 300 : 0);
      Check.due("row of " + d, x.row(0, d, d), 1);
      Check.due("swap on " + d, x.swap(0, d, d, 69 - d) == NO_FORM, false);
      Check.due("without " + d, x.without(0, d, 0) == NO_FORM, false);
      Check.due("ahead " + d, x.ahead(1, 0, d), d);
      Check.due("camp of " + d, x.camp(d, d), d == 0 ? 1 : 2);
    }
  }

  // ---- SETTINGS

  private static void settings() {
    setting("0 SLOW 2 to 99 (42)", 0, 2, 99, 42);
    setting("1 FAST 2 to 99 (7)", 1, 2, 99, 7);
    setting("2 GAIN 1 to 9 (1)", 2, 1, 9, 1);
    setting("3 COST 1 to 9 (2)", 3, 1, 9, 2);
    setting("4 BOUND 100 to 400 (150)", 4, 100, 400, 150);
    setting("5 HEAL 1 to 14 (5)", 5, 1, 14, 5);
    setting("6 ALLOWED 0 to 2100 (2100)", 6, 0, 2100, 2100);
    setting("7 CAMP 100 to 300 (150)", 7, 100, 300, 150);
    Check.edge("SETTINGS by numbers", () -> {
      TrainingBook x = new TrainingBook();
      for (int s : new int[] {-1, 8, 9, Integer.MAX_VALUE, Integer.MIN_VALUE}) Check.due("setting " + s, x.set(s, 5), false);
      Check.faulty(x, "set 8 5;", 2, 4);
    });
  }

  private static void setting(String quoted, int s, int least, int most, int first) {
    Check.edge(quoted, () -> {
      TrainingBook x = new TrainingBook();
      Check.due("at first", x.count(20 + s), first);
      Check.due("as it is", x.set(s, first), false);
      for (int v : new int[] {least - 1, most + 1, Integer.MIN_VALUE, Integer.MAX_VALUE}) {
        Check.due("set to " + v, x.set(s, v), false);
        Check.due("it stays", x.count(20 + s), first);
      }
      for (int v : new int[] {least, most, least}) {
        boolean another = v != x.count(20 + s);
        Check.due("set to " + v, x.set(s, v), another);
        Check.due("it is " + v, x.count(20 + s), v);
      }
      if (least > 0) Check.faulty(x, "set " + s + " " + (least - 1) + ";", 2, 6);
      Check.faulty(x, "set " + s + " " + (most + 1) + ";", 2, 6);
      Check.told(x, "set " + s + " " + most + ";", 1);
      Check.due("told as most", x.count(20 + s), most);
      Check.told(x, "set " + s + " " + least + ";", 1);
      Check.due("told as least", x.count(20 + s), least);
    });
  }

  // ---- DAY by DAY

  private static void dayByDay() {
    Check.edge("DAY by DAY, for each GROUP by itself", () -> {
      TrainingBook x = alone();
      x.group(0, 0);
      x.plan(0, 20, 69, 5);
      x.set(6, 250);
      Check.due("injured", x.injured(0, 20, 20), 1);
      x.plan(1, 0, 69, 1);
      Check.due("the other is not", x.injured(1, 0, 69), 0);
      Check.due("the other's week is its own", x.week(1, 0), 210);
    });
    Check.edge("in a CAMP (one or more) times CAMP by 100, cut", () -> {
      TrainingBook x = alone();
      x.load(1, 1);
      x.load(2, 3);
      x.plan(0, 0, 5, 1);
      x.plan(0, 6, 6, 2);
      x.camp(1, 6);
      x.camp(2, 6);
      x.camp(2, 6);
      x.set(7, 199);
      Check.due("in none", x.day(0, 0, 1), 1);
      Check.due("1 times 199, cut", x.day(0, 1, 1), 1);
      Check.due("in three", x.day(0, 2, 1), 1);
      Check.due("3 times 199, cut", x.day(0, 6, 1), 5);
      x.set(7, 200);
      Check.due("1 times 200", x.day(0, 1, 1), 2);
      x.set(7, 100);
      Check.due("1 times 100", x.day(0, 1, 1), 1);
      x.set(7, 300);
      x.load(2, 300);
      Check.due("300 times 300", x.day(0, 6, 1), 900);
      x.load(2, 0);
      Check.due("0 times 300", x.day(0, 6, 1), 0);
    });
    Check.edge("not above what ALLOWED is more than its LOADS of the DAYS ahead in that WEEK", () -> {
      TrainingBook x = alone();
      x.plan(0, 0, 69, 1);
      x.set(6, 210);
      Check.due("all seven", x.day(0, 6, 1), 30);
      x.set(6, 209);
      Check.due("one less on the last day", x.day(0, 6, 1), 29);
      Check.due("a week anew", x.day(0, 7, 1), 30);
      x.set(6, 180);
      Check.due("nothing is left", x.day(0, 6, 1), 0);
      Check.due("in the last week", x.day(0, 69, 1), 0);
      Check.due("but on 68", x.day(0, 68, 1), 30);
      x.set(6, 0);
      for (int w = 0; w < 10; w++) Check.due("week " + w, x.week(0, w), 0);
      x.set(6, 44);
      x.camp(0, 0);
      Check.due("what a camp puts up is held", x.day(0, 0, 1), 44);
      x.set(6, 2100);
      x.set(7, 300);
      x.load(5, 300);
      x.plan(0, 0, 6, 5);
      x.camp(0, 6);
      int[] due = {900, 900, 300, 0, 0, 0, 0};
      for (int d = 0; d < 7; d++) Check.due("as much as can be, on " + d, x.day(0, d, 1), due[d]);
    });
    Check.edge("FIT has FIT by SLOW (cut) less, then 10 times LOAD more", () -> {
      TrainingBook x = new TrainingBook();
      x.group(41, 0);
      x.group(42, 0);
      x.group(83, 0);
      x.group(84, 0);
      int[] ends = {41, 41, 82, 82};
      for (int g = 0; g < 4; g++) Check.due("fit of " + g, x.day(g, 0, 2), ends[g]);
      x.plan(1, 0, 0, 1);
      Check.due("less first, then more", x.day(1, 0, 2), 341);
      Check.due("on the day behind", x.day(1, 1, 2), 341 - 8);
      x.set(0, 2);
      Check.due("by 2", x.day(0, 0, 2), 21);
      x.set(0, 99);
      Check.due("by 99", x.day(3, 0, 2), 84);
    });
    Check.edge("TIRED by FAST likewise", () -> {
      TrainingBook x = new TrainingBook();
      x.group(0, 6);
      x.group(0, 7);
      x.group(0, 13);
      x.group(0, 14);
      int[] ends = {6, 6, 12, 12};
      for (int g = 0; g < 4; g++) Check.due("tired of " + g, x.day(g, 0, 3), ends[g]);
      x.plan(1, 0, 0, 1);
      Check.due("less first, then more", x.day(1, 0, 3), 306);
      Check.due("on the day behind", x.day(1, 1, 3), 306 - 43);
      x.set(1, 2);
      Check.due("by 2", x.day(2, 0, 3), 7);
      x.set(1, 99);
      Check.due("by 99", x.day(3, 0, 3), 14);
    });
    Check.edge("ACUTE: LOADS of that DAY and the 6 ahead", () -> {
      TrainingBook x = alone();
      x.plan(0, 10, 10, 1);
      for (int d = 0; d < 70; d++) Check.due("acute on " + d, x.day(0, d, 6), d >= 10 && d <= 16 ? 30 : 0);
    });
    Check.edge("CHRONIC: of that DAY and the 27 ahead", () -> {
      TrainingBook x = alone();
      x.plan(0, 10, 10, 1);
      for (int d = 0; d < 70; d++) Check.due("chronic on " + d, x.day(0, d, 7), d >= 10 && d <= 37 ? 30 : 0);
    });
    Check.edge("(as far as there are)", () -> {
      TrainingBook x = alone();
      x.plan(0, 0, 69, 1);
      for (int d = 0; d < 70; d++) {
        Check.due("acute on " + d, x.day(0, d, 6), 30 * Math.min(7, d + 1));
        Check.due("chronic on " + d, x.day(0, d, 7), 30 * Math.min(28, d + 1));
      }
    });
    Check.edge("FORM on a DAY: GAIN times FIT less COST times TIRED, as that DAY ends", () -> {
      TrainingBook x = new TrainingBook();
      x.group(9999, 0);
      x.group(0, 9999);
      x.group(0, 0);
      Check.due("above 0", x.form(0, 0), 9761);
      Check.due("below 0", x.form(1, 0), -2 * 8571);
      Check.due("0", x.form(2, 0), 0);
      x.set(2, 9);
      x.set(3, 9);
      Check.due("by 9", x.form(0, 0), 9 * 9761);
      Check.due("by 9, below 0", x.form(1, 0), -9 * 8571);
      mostAndLeastForm();
    });
  }

  // The greatest LOADS that can be, on all DAYS, with the slowest and the fastest decay.
  private static void mostAndLeastForm() {
    TrainingBook x = new TrainingBook();
    x.group(9999, 9999);
    x.camp(0, 69);
    int[] set = {99, 2, 9, 1, 400, 5, 2100, 300};
    for (int s = 0; s < 8; s++) x.set(s, set[s]);
    x.load(5, 300);
    x.plan(0, 0, 69, 5);
    long slow = 9999;
    long fast = 9999;
    for (int d = 0; d < 70; d++) {
      int load = d % 7 < 2 ? 900 : d % 7 == 2 ? 300 : 0;
      slow = slow - slow / 99 + 10 * load;
      fast = fast - fast / 2 + 10 * load;
    }
    Check.due("the greatest", x.form(0, 69), 9 * slow - fast);
    int[] back = {2, 99, 1, 9};
    for (int s = 0; s < 4; s++) x.set(s, back[s]);
    Check.due("the least", x.form(0, 69), fast - 9 * slow);
  }

  // ---- INJURED and HURT

  private static void injuries() {
    Check.edge("From DAY 20 on it is INJURED", () -> {
      for (int d = 0; d < 70; d++) {
        TrainingBook x = alone();
        x.plan(0, d, d, 5);
        Check.due("by a race on " + d, x.day(0, d, 5), d >= 20 ? 1 : 0);
      }
    });
    Check.edge("if ACUTE times 400 is above BOUND times CHRONIC", () -> {
      TrainingBook x = alone();
      x.plan(0, 0, 19, 1);
      x.plan(0, 20, 20, 2);
      x.load(2, 72);
      Check.due("acute", x.day(0, 20, 6), 252);
      Check.due("chronic", x.day(0, 20, 7), 672);
      Check.due("as much is not above", x.day(0, 20, 5), 0);
      x.load(2, 73);
      Check.due("one more is", x.day(0, 20, 5), 1);
      x.load(2, 72);
      x.set(4, 149);
      Check.due("a bound that is one less", x.day(0, 20, 5), 1);
      x.set(4, 151);
      x.load(2, 73);
      Check.due("a bound that is one more", x.day(0, 20, 5), 0);
      TrainingBook none = alone();
      none.set(4, 100);
      Check.due("0 is not above 0", none.injured(0, 0, 69), 0);
    });
    Check.edge("and it is not HURT that DAY", () -> {
      TrainingBook x = alone();
      x.plan(0, 20, 30, 5);
      x.set(5, 3);
      for (int d = 20; d <= 30; d++) {
        Check.due("too much on " + d, x.day(0, d, 6) * 400 > 150 * x.day(0, d, 7), true);
        Check.due("hurt on " + d, x.day(0, d, 4), d % 4 == 0 ? 0 : 1);
        Check.due("injured on " + d, x.day(0, d, 5), d % 4 == 0 ? 1 : 0);
      }
    });
    Check.edge("0, if it is HURT", () -> {
      TrainingBook x = alone();
      x.plan(0, 20, 40, 5);
      x.camp(0, 69);
      Check.due("on the day itself", x.day(0, 20, 1), 300);
      for (int d = 21; d <= 25; d++) Check.due("load on " + d, x.day(0, d, 1), 0);
      Check.due("behind", x.day(0, 26, 1), 300);
      x.set(6, 300);
      Check.due("what was not trained is still allowed", x.day(0, 26, 1), 300);
    });
    Check.edge("then it is HURT on the next HEAL DAYS", () -> {
      for (int heal = 1; heal <= 14; heal++) {
        TrainingBook x = alone();
        x.set(5, heal);
        x.plan(0, 0, 29, 1);
        x.plan(0, 30, 30, 5);
        Check.due("injured on 30", x.day(0, 30, 5), 1);
        for (int d = 0; d < 70; d++) {
          Check.due("hurt on " + d + " by " + heal, x.day(0, d, 4), d > 30 && d <= 30 + heal ? 1 : 0);
        }
      }
      for (int first = 60; first < 70; first++) {
        TrainingBook x = alone();
        x.set(5, 14);
        x.plan(0, first, first, 5);
        Check.due("injured on " + first, x.day(0, first, 5), 1);
        for (int d = first + 1; d < 70; d++) Check.due("hurt up to the last day, " + d, x.day(0, d, 4), 1);
        Check.due("once", x.injured(0, 0, 69), 1);
      }
    });
  }

  // ---- Terms 2

  private static void lookedFor() {
    Check.edge("PEAK of DAYS a to b: that with the greatest FORM, of several the first", () -> {
      TrainingBook x = alone();
      Check.due("all alike", x.peak(0, 0, 69), 0);
      Check.due("all alike from 7 on", x.peak(0, 7, 69), 7);
      x.plan(0, 10, 10, 1);
      Check.due("a lesser one first", x.peak(0, 10, 12), 12);
      Check.due("the others are first", x.peak(0, 8, 12), 8);
      Check.due("one day, below 0", x.peak(0, 10, 10), 10);
    });
    Check.edge("TAPER of a DAY d: the least n (0 to 14, not above d)", () -> {
      TrainingBook x = tiring();
      for (int d = 0; d <= 20; d++) Check.due("taper of " + d, x.taper(0, d), Math.min(14, d));
      Check.due("taper of 69", x.taper(0, 69), 14);
      x.plan(0, 54, 68, 0);
      int byFifteen = x.form(0, 69);
      x.plan(0, 54, 54, 3);
      Check.due("a 15th would be better still", byFifteen > x.form(0, 69), true);
      TrainingBook y = tiring();
      y.plan(0, 0, 0, 0);
      Check.due("as good with day 0 as without", y.taper(0, 10), 9);
      y.plan(0, 9, 9, 0);
      Check.due("the day ahead is at rest already", y.taper(0, 10), 9);
      y.plan(0, 0, 10, 0);
      Check.due("all are at rest already", y.taper(0, 10), 0);
    });
    Check.edge("BEST of a DAY d by n (0 to 4, not above d)", () -> {
      TrainingBook x = alone();
      x.set(2, 9);
      x.set(3, 1);
      int[] due = {0, 5, 55, 555, 5555};
      for (int d = 0; d < 7; d++) {
        for (int n = -1; n <= 6; n++) {
          boolean canBe = n >= 0 && n <= 4 && n <= d;
          Check.due("best of " + d + " by " + n, x.best(0, d, n, 0), canBe ? due[n] : NO_FORM);
        }
      }
    });
    Check.edge("of those by which the GROUP is INJURED on none of DAYS d less n to d", () -> {
      TrainingBook x = alone();
      x.set(2, 9);
      x.set(3, 1);
      Check.due("on 19 it is not injured", x.best(0, 19, 1, 0), 5);
      Check.due("on d less n it would be", x.best(0, 21, 1, 0), 0);
      x.plan(0, 21, 21, 3);
      Check.due("on d it would be", x.best(0, 21, 1, 0), NO_FORM);
      x.undo();
      x.plan(0, 20, 20, 3);
      Check.due("ahead of d less n it may be", x.best(0, 22, 1, 0), 0);
      Check.due("with that form", x.best(0, 22, 1, 1), x.form(0, 22));
      Check.due("behind d it may be", x.best(0, 19, 2, 0), 55);
    });
    Check.edge("of several the first row (by KINDS, DAY by DAY)", () -> {
      TrainingBook x = alone();
      int[] set = {99, 99, 9, 1, 400, 5, 3, 150};
      for (int s = 0; s < 8; s++) x.set(s, set[s]);
      for (int kind = 1; kind < 4; kind++) x.load(kind, kind);
      Check.due("rest, hard is ahead of easy, steady", x.best(0, 5, 2, 0), 3);
      Check.due("three at rest", x.best(0, 5, 4, 0), 3);
      Check.due("form", x.best(0, 5, 4, 1), 8 * 30);
      x.load(3, 2);
      x.load(4, 2);
      x.load(5, 2);
      Check.due("easy, steady is ahead of steady, easy", x.best(0, 5, 2, 0), 12);
      x.set(6, 0);
      Check.due("all alike", x.best(0, 5, 4, 0), 0);
    });
    Check.edge("TEAM of a DAY, of k: the k GROUPS of greatest FORM, of several the lesser ones", () -> {
      TrainingBook x = new TrainingBook();
      for (int g = 0; g < 6; g++) x.group(0, 0);
      for (int k = 0; k <= 6; k++) Check.due("all alike, " + k, x.team(69, k), (1 << k) - 1);
      x.plan(0, 69, 69, 1);
      for (int k = 0; k <= 5; k++) Check.due("0 is less, " + k, x.team(69, k), (1 << k) - 1 << 1);
      Check.due("all of them", x.team(69, 6), 63);
    });
    Check.edge("SAFE on a DAY: the greatest LOAD (0 to 300)", () -> {
      TrainingBook x = alone();
      Check.due("0", x.safe(0, 20), 0);
      x.plan(0, 0, 19, 1);
      Check.due("72", x.safe(0, 20), 72);
      x.set(4, 213);
      Check.due("298", x.safe(0, 20), 298);
      x.set(4, 214);
      Check.due("not above 300", x.safe(0, 20), 300);
    });
    Check.edge("would leave the GROUP not INJURED on it (all ahead as it is)", () -> {
      TrainingBook x = alone();
      x.plan(0, 0, 19, 1);
      for (int kind = 0; kind < 6; kind++) {
        x.plan(0, 20, 20, kind);
        Check.due("its own kind is nothing to it", x.safe(0, 20), 72);
      }
      x.plan(0, 20, 20, 1);
      x.load(1, 72);
      Check.due("days ahead of that kind have its load", x.safe(0, 20), 172);
    });
    Check.edge("ROW: the longest row of DAYS a to b with LOADS above 0", () -> {
      TrainingBook x = alone();
      x.load(1, 1);
      x.load(2, 0);
      x.plan(0, 0, 18, 1);
      Check.due("loads of 1", x.row(0, 0, 69), 19);
      x.plan(0, 9, 9, 2);
      Check.due("a load of 0 in between: two as long", x.row(0, 0, 69), 9);
      Check.due("cut at both ends", x.row(0, 3, 12), 6);
      Check.due("0 alone", x.row(0, 9, 9), 0);
      Check.due("1 alone", x.row(0, 8, 8), 1);
    });
  }

  // Resting is always better here: what is lost of FIT is soon lost anyhow, TIRED stays.
  private static TrainingBook tiring() {
    TrainingBook x = alone();
    int[] set = {2, 99, 1, 9, 400};
    for (int s = 0; s < 5; s++) x.set(s, set[s]);
    x.plan(0, 0, 69, 3);
    return x;
  }
}

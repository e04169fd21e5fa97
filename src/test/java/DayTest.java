/** Promises 15 to 18 and Terms 1: day by day. */
public final class DayTest {
  private static final int NO_FORM = -1000000000;

  public static void main(String[] args) {
    noneSuch();
    decays();
    camps();
    allowed();
    injuries();
    bounds();
    weeks();
    Check.finish();
  }

  private static void noneSuch() {
    TrainingBook x = new TrainingBook();
    x.group(1000, 1000);
    int[] groups = {-1, 1, 6, Integer.MAX_VALUE, Integer.MIN_VALUE};
    int[] days = {-1, 70, Integer.MAX_VALUE, Integer.MIN_VALUE};
    for (int g : groups) {
      Check.due("day", x.day(g, 0, 0), -1);
      Check.due("form", x.form(g, 0), NO_FORM);
      Check.due("week", x.week(g, 0), -1);
      Check.due("injured", x.injured(g, 0, 1), -1);
    }
    for (int d : days) {
      Check.due("day", x.day(0, d, 0), -1);
      Check.due("form", x.form(0, d), NO_FORM);
      Check.due("injured from", x.injured(0, d, 69), -1);
      Check.due("injured to", x.injured(0, 0, d), -1);
    }
    Check.due("what -1", x.day(0, 0, -1), -1);
    Check.due("what 8", x.day(0, 0, 8), -1);
    Check.due("week -1", x.week(0, -1), -1);
    Check.due("week 10", x.week(0, 10), -1);
    Check.due("week MAX", x.week(0, Integer.MAX_VALUE), -1);
    Check.due("b below a", x.injured(0, 5, 4), -1);
    Check.due("b is a", x.injured(0, 5, 5), 0);
  }

  private static void decays() {
    TrainingBook x = new TrainingBook();
    x.group(1000, 500);
    x.plan(0, 1, 1, 5);
    Check.due("fit 0", x.day(0, 0, 2), 1000 - 23);
    Check.due("tired 0", x.day(0, 0, 3), 500 - 71);
    Check.due("fit 1", x.day(0, 1, 2), 977 - 23 + 2000);
    Check.due("tired 1", x.day(0, 1, 3), 429 - 61 + 2000);
    Check.due("fit 2", x.day(0, 2, 2), 2954 - 70);
    Check.due("form 1", x.form(0, 1), 2954 - 2 * 2368);
    x.set(0, 99);
    x.set(1, 2);
    x.set(2, 9);
    x.set(3, 1);
    Check.due("fit 0", x.day(0, 0, 2), 990);
    Check.due("tired 0", x.day(0, 0, 3), 250);
    Check.due("form 0", x.form(0, 0), 9 * 990 - 250);
    x.set(3, 9);
    x.set(2, 1);
    Check.due("form 0", x.form(0, 0), 990 - 9 * 250);
    Check.due("kind", x.day(0, 1, 0), 5);
    Check.due("load", x.day(0, 1, 1), 200);
    x.load(5, 7);
    Check.due("load", x.day(0, 1, 1), 7);
    Check.due("a small number stays", smallNumber(), 1);
  }

  // 1 by SLOW, cut, is 0: nothing is lost.
  private static int smallNumber() {
    TrainingBook x = new TrainingBook();
    x.group(1, 1);
    return x.day(0, 69, 2);
  }

  private static void camps() {
    TrainingBook x = new TrainingBook();
    x.group(0, 0);
    x.load(1, 33);
    x.plan(0, 0, 9, 1);
    x.camp(2, 4);
    x.camp(4, 5);
    Check.due("ahead of it", x.day(0, 1, 1), 33);
    Check.due("first", x.day(0, 2, 1), 49);
    Check.due("in two of them", x.day(0, 4, 1), 49);
    Check.due("last", x.day(0, 5, 1), 49);
    Check.due("behind", x.day(0, 6, 1), 33);
    x.set(7, 100);
    Check.due("by 100", x.day(0, 4, 1), 33);
    x.set(7, 299);
    Check.due("cut", x.day(0, 4, 1), 98);
    x.strike(0);
    Check.due("one is there yet", x.day(0, 4, 1), 98);
    Check.due("one isn't", x.day(0, 3, 1), 33);
    x.camp(0, 0);
    Check.due("day 0", x.day(0, 0, 1), 98);
    x.undo();
    Check.due("day 0, undone", x.day(0, 0, 1), 33);
  }

  private static void allowed() {
    TrainingBook x = new TrainingBook();
    x.group(0, 0);
    x.plan(0, 0, 69, 3);
    x.set(6, 200);
    int[] due = {90, 90, 20, 0, 0, 0, 0, 90, 90, 20};
    for (int d = 0; d < due.length; d++) Check.due("load on " + d, x.day(0, d, 1), due[d]);
    for (int w = 0; w < 10; w++) Check.due("week " + w, x.week(0, w), 200);
    x.camp(0, 0);
    Check.due("put up ahead of being held", x.day(0, 0, 1), 135);
    Check.due("what is left", x.day(0, 1, 1), 65);
    x.set(6, 100);
    Check.due("held", x.day(0, 0, 1), 100);
    x.set(6, 0);
    Check.due("nothing", x.day(0, 0, 1) + x.week(0, 5), 0);
    Check.due("kind by the plan", x.day(0, 0, 0), 3);
  }

  private static void injuries() {
    TrainingBook x = new TrainingBook();
    x.group(0, 0);
    x.plan(0, 12, 30, 3);
    Check.due("not ahead of 20", x.injured(0, 0, 19), 0);
    Check.due("acute on 19", x.day(0, 19, 6), 630);
    Check.due("chronic on 19", x.day(0, 19, 7), 720);
    Check.due("injured on 20", x.day(0, 20, 5), 1);
    Check.due("not hurt that day", x.day(0, 20, 4), 0);
    Check.due("load that day", x.day(0, 20, 1), 90);
    for (int d = 21; d <= 25; d++) {
      Check.due("hurt on " + d, x.day(0, d, 4), 1);
      Check.due("not injured on " + d, x.day(0, d, 5), 0);
      Check.due("no load on " + d, x.day(0, d, 1), 0);
      Check.due("kind on " + d, x.day(0, d, 0), 3);
    }
    Check.due("healed", x.day(0, 26, 4), 0);
    Check.due("load again", x.day(0, 26, 1), 90);
    Check.due("week 3 has none, but 26 and 27", x.week(0, 3), 180);
    Check.due("once", x.injured(0, 20, 20), 1);
    Check.due("once, 20 left out", x.injured(0, 21, 26), 0);
    x.set(5, 1);
    Check.due("hurt for a day", x.day(0, 21, 4), 1);
    Check.due("no more", x.day(0, 22, 4), 0);
    Check.due("injured again", x.day(0, 22, 5), 1);
    Check.due("23 hurt", x.day(0, 23, 4), 1);
    x.set(5, 14);
    Check.due("hurt for 14", x.day(0, 34, 4), 1);
    Check.due("no more", x.day(0, 35, 4), 0);
    x.set(4, 400);
    Check.due("never by 400", x.injured(0, 0, 69), 0);
    TrainingBook late = new TrainingBook();
    late.group(0, 0);
    late.plan(0, 69, 69, 1);
    Check.due("injured on 69", late.injured(0, 69, 69), 1);
    Check.due("injured on 0 to 69", late.injured(0, 0, 69), 1);
  }

  // ACUTE times 400 against BOUND times CHRONIC: as much is not above.
  private static void bounds() {
    TrainingBook x = new TrainingBook();
    x.group(0, 0);
    x.plan(0, 0, 69, 2);
    Check.due("acute on 0", x.day(0, 0, 6), 60);
    Check.due("acute on 6", x.day(0, 6, 6), 420);
    Check.due("chronic on 0", x.day(0, 0, 7), 60);
    Check.due("acute", x.day(0, 27, 6), 420);
    Check.due("chronic", x.day(0, 27, 7), 1680);
    Check.due("chronic later on", x.day(0, 69, 7), 1680);
    Check.due("never", x.injured(0, 0, 69), 0);
    TrainingBook y = new TrainingBook();
    y.group(0, 0);
    y.load(1, 10);
    y.plan(0, 0, 26, 1);
    y.plan(0, 27, 27, 2);
    y.set(4, 100);
    y.set(5, 1);
    Check.due("chronic of 21 days on 20", y.day(0, 20, 7), 210);
    Check.due("acute on 20", y.day(0, 20, 6), 70);
    Check.due("70 * 400 is above 100 * 210", y.day(0, 20, 5), 1);
    y.set(4, 134);
    Check.due("70 * 400 is not above 134 * 210", y.day(0, 20, 5), 0);
    y.set(4, 133);
    Check.due("70 * 400 is above 133 * 210", y.day(0, 20, 5), 1);
    TrainingBook z = new TrainingBook();
    z.group(0, 0);
    z.load(1, 10);
    z.plan(0, 0, 27, 1);
    z.set(4, 200);
    Check.due("chronic of 28 days", z.day(0, 27, 7), 280);
    z.plan(0, 0, 6, 0);
    z.plan(0, 14, 20, 0);
    Check.due("70 * 400 is as much as 200 * 140", z.day(0, 27, 6) * 400 - 200 * z.day(0, 27, 7), 0);
    Check.due("so it is not injured", z.injured(0, 20, 27), 0);
    z.set(4, 199);
    Check.due("but by 199", z.day(0, 27, 5), 1);
    Check.due("chronic on 28 has lost day 0", dropsTheFirst(), 280);
  }

  private static int dropsTheFirst() {
    TrainingBook x = new TrainingBook();
    x.group(0, 0);
    x.load(1, 10);
    x.plan(0, 0, 0, 5);
    x.plan(0, 1, 69, 1);
    x.set(4, 400);
    return x.day(0, 28, 7);
  }

  private static void weeks() {
    TrainingBook x = new TrainingBook();
    x.group(0, 0);
    x.set(4, 400);
    x.plan(0, 6, 7, 1);
    x.plan(0, 69, 69, 5);
    Check.due("week 0", x.week(0, 0), 30);
    Check.due("week 1", x.week(0, 1), 30);
    Check.due("week 2", x.week(0, 2), 0);
    Check.due("week 9", x.week(0, 9), 200);
  }
}

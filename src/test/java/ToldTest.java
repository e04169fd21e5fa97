/** Promises 1, 6 to 14: what is told by calls, counted, undone. */
public final class ToldTest {
  public static void main(String[] args) {
    newObject();
    groups();
    loads();
    settings();
    camps();
    strikes();
    plans();
    undoing();
    undoingLoadsAndSettings();
    undoingTheLatestEight();
    undoingGroupsLeavesNoKinds();
    counts();
    Check.finish();
  }

  private static void newObject() {
    TrainingBook x = new TrainingBook();
    for (int what = 0; what < 4; what++) Check.due("new: count " + what, x.count(what), 0);
    int[] loads = {0, 30, 60, 90, 120, 200};
    for (int kind = 0; kind < 6; kind++) Check.due("new: load " + kind, x.count(10 + kind), loads[kind]);
    int[] settings = {42, 7, 1, 2, 150, 5, 2100, 150};
    for (int s = 0; s < 8; s++) Check.due("new: setting " + s, x.count(20 + s), settings[s]);
    Check.due("new: fault", x.fault(), 0);
    Check.due("new: undo", x.undo(), -1);
    Check.due("new: form", x.form(0, 0), TrainingBook.NO_FORM);
    Check.due("new: camped", Check.throwsNoSuch(x, 0, false), true);
    Check.due("NONE", TrainingBook.NONE, -1);
    Check.due("NO_FORM", TrainingBook.NO_FORM, -1000000000);
  }

  private static void groups() {
    TrainingBook x = new TrainingBook();
    Check.due("group(-1, 0)", x.group(-1, 0), -1);
    Check.due("group(0, -1)", x.group(0, -1), -1);
    Check.due("group(10000, 0)", x.group(10000, 0), -1);
    Check.due("group(0, 10000)", x.group(0, 10000), -1);
    Check.due("group(MIN, MAX)", x.group(Integer.MIN_VALUE, Integer.MAX_VALUE), -1);
    Check.due("none came", x.count(0) + x.count(3), 0);
    Check.due("group(9999, 0)", x.group(9999, 0), 0);
    Check.due("group(0, 9999)", x.group(0, 9999), 1);
    for (int g = 2; g < 6; g++) Check.due("group " + g, x.group(g, g), g);
    Check.due("a 7th", x.group(0, 0), -2);
    Check.due("a 7th that can't be", x.group(-1, 0), -1);
    Check.due("six", x.count(0), 6);
    Check.due("six can be undone", x.count(3), 6);
    Check.due("fit of 0", x.day(0, 0, 2), 9999 - 9999 / 42);
    Check.due("tired of 1", x.day(1, 0, 3), 9999 - 9999 / 7);
  }

  private static void loads() {
    TrainingBook x = new TrainingBook();
    Check.due("rest", x.load(0, 10), false);
    Check.due("rest as it is", x.load(0, 0), false);
    Check.due("no kind -1", x.load(-1, 10), false);
    Check.due("no kind 6", x.load(6, 10), false);
    Check.due("no kind MAX", x.load(Integer.MAX_VALUE, 10), false);
    Check.due("below 0", x.load(1, -1), false);
    Check.due("above 300", x.load(1, 301), false);
    Check.due("as it is", x.load(1, 30), false);
    Check.due("300", x.load(1, 300), true);
    Check.due("300 again", x.load(1, 300), false);
    Check.due("0", x.load(5, 0), true);
    Check.due("count easy", x.count(11), 300);
    Check.due("count race", x.count(15), 0);
    Check.due("count rest", x.count(10), 0);
    Check.due("none of these is to undo", x.count(3), 0);
  }

  private static void settings() {
    int[] least = {2, 2, 1, 1, 100, 1, 0, 100};
    int[] most = {99, 99, 9, 9, 400, 14, 2100, 300};
    int[] first = {42, 7, 1, 2, 150, 5, 2100, 150};
    TrainingBook x = new TrainingBook();
    for (int s = 0; s < 8; s++) {
      String name = "setting " + s;
      Check.due(name + " as it is", x.set(s, first[s]), false);
      Check.due(name + " too small", x.set(s, least[s] - 1), false);
      Check.due(name + " too large", x.set(s, most[s] + 1), false);
      Check.due(name + " stays", x.count(20 + s), first[s]);
      Check.due(name + " least", x.set(s, least[s]), least[s] != first[s]);
      Check.due(name + " is least", x.count(20 + s), least[s]);
      Check.due(name + " most", x.set(s, most[s]), true);
      Check.due(name + " most again", x.set(s, most[s]), false);
      Check.due(name + " is most", x.count(20 + s), most[s]);
    }
    Check.due("no setting -1", x.set(-1, 5), false);
    Check.due("no setting 8", x.set(8, 5), false);
    Check.due("no setting MIN", x.set(Integer.MIN_VALUE, 5), false);
    Check.due("none of these is to undo", x.count(3), 0);
  }

  private static void camps() {
    TrainingBook x = new TrainingBook();
    Check.due("b below a", x.camp(3, 2), -1);
    Check.due("a below 0", x.camp(-1, 2), -1);
    Check.due("b beyond 69", x.camp(3, 70), -1);
    Check.due("both beyond", x.camp(70, 71), -1);
    Check.due("none came", x.count(1) + x.count(3), 0);
    Check.due("camp(0, 69)", x.camp(0, 69), 0);
    Check.due("camp(5, 5)", x.camp(5, 5), 1);
    Check.due("camp(0, 69) once more", x.camp(0, 69), 2);
    Check.due("camp(69, 69)", x.camp(69, 69), 3);
    Check.due("a 5th", x.camp(0, 1), -2);
    Check.due("a 5th that can't be", x.camp(1, 0), -1);
    Check.due("four", x.count(1), 4);
    Check.due("first of 1", x.camped(1, false), 5);
    Check.due("last of 0", x.camped(0, true), 69);
    Check.due("first of 0", x.camped(0, false), 0);
    Check.due("camped(-1)", Check.throwsNoSuch(x, -1, true), true);
    Check.due("camped(4)", Check.throwsNoSuch(x, 4, false), true);
    Check.due("camped(MAX)", Check.throwsNoSuch(x, Integer.MAX_VALUE, false), true);
    Check.due("camped(3)", Check.throwsNoSuch(x, 3, false), false);
  }

  private static void strikes() {
    TrainingBook x = new TrainingBook();
    Check.due("none to strike", x.strike(0), -1);
    x.camp(1, 2);
    x.camp(3, 5);
    x.camp(6, 9);
    Check.due("strike(-1)", x.strike(-1), -1);
    Check.due("strike(3)", x.strike(3), -1);
    Check.due("strike(1)", x.strike(1), 2);
    Check.due("the first stays", x.camped(0, true), 2);
    Check.due("the last one's first", x.camped(1, false), 6);
    Check.due("the last one's last", x.camped(1, true), 9);
    Check.due("camped(2)", Check.throwsNoSuch(x, 2, false), true);
    Check.due("four to undo", x.count(3), 4);
    Check.due("strike(0)", x.strike(0), 1);
    Check.due("strike(0) again", x.strike(0), 0);
    Check.due("strike(0) of none", x.strike(0), -1);
    Check.due("undo", x.undo(), 5);
    Check.due("it is there", x.camped(0, false), 6);
    x.undo();
    Check.due("undo of strike(1)", x.undo(), 3);
    Check.due("it stands between", x.camped(1, true), 5);
    Check.due("and the other behind it", x.camped(2, true), 9);
    x.camp(60, 69);
    Check.due("strike(0) of four", x.strike(0), 3);
    Check.due("the first of three", x.camped(0, false), 3);
    Check.due("the last of three", x.camped(2, true), 69);
    Check.due("strike(2) of three", x.strike(2), 2);
    Check.due("the last of two", x.camped(1, true), 9);
  }

  private static void plans() {
    TrainingBook x = new TrainingBook();
    Check.due("no group", x.plan(0, 0, 1, 1), -1);
    x.group(0, 0);
    x.group(0, 0);
    Check.due("group -1", x.plan(-1, 0, 1, 1), -1);
    Check.due("group 2", x.plan(2, 0, 1, 1), -1);
    Check.due("a below 0", x.plan(0, -1, 1, 1), -1);
    Check.due("b beyond", x.plan(0, 0, 70, 1), -1);
    Check.due("b below a", x.plan(0, 5, 4, 1), -1);
    Check.due("kind -1", x.plan(0, 0, 1, -1), -1);
    Check.due("kind 6", x.plan(0, 0, 1, 6), -1);
    Check.due("rest, as it is", x.plan(0, 0, 69, 0), 0);
    Check.due("two to undo", x.count(3), 2);
    Check.due("all", x.plan(0, 0, 69, 5), 70);
    Check.due("one", x.plan(0, 69, 69, 4), 1);
    Check.due("some of them", x.plan(0, 60, 69, 5), 1);
    Check.due("the other group's", x.plan(1, 0, 9, 2), 10);
    Check.due("kind on 69", x.day(0, 69, 0), 5);
    Check.due("kind on 9 of 1", x.day(1, 9, 0), 2);
    Check.due("kind on 10 of 1", x.day(1, 10, 0), 0);
    Check.due("six to undo", x.count(3), 6);
  }

  private static void undoing() {
    TrainingBook x = new TrainingBook();
    x.group(100, 200);
    x.plan(0, 0, 6, 3);
    x.camp(2, 4);
    Check.due("week", x.week(0, 0), 7 * 90 + 3 * 45);
    Check.due("undo camp", x.undo(), 2);
    Check.due("week without", x.week(0, 0), 7 * 90);
    Check.due("undo plan", x.undo(), 1);
    Check.due("week at rest", x.week(0, 0), 0);
    Check.due("undo group", x.undo(), 0);
    Check.due("no week", x.week(0, 0), -1);
    Check.due("undo none", x.undo(), -1);
    Check.due("undo none again", x.undo(), -1);
    Check.told(x, "group 1 1;group 2 2;camp 0 0;", 3);
    Check.due("one to undo", x.count(3), 1);
    Check.faulty(x, "group 3 3;y", 1, 10);
    Check.due("a fault is none to undo", x.count(3), 1);
    Check.due("undo tell", x.undo(), 0);
    Check.due("no groups", x.count(0), 0);
    Check.due("no camps", x.count(1), 0);
    Check.due("the fault stays", x.fault(), 81);
    Check.put(x, "camp");
    x.group(1, 1);
    x.undo();
    Check.due("the tape stays", x.count(2), 4);
  }

  private static void undoingLoadsAndSettings() {
    TrainingBook x = new TrainingBook();
    x.load(1, 31);
    x.set(0, 43);
    x.group(0, 0);
    x.load(1, 32);
    x.set(0, 44);
    x.group(0, 0);
    x.load(1, 33);
    x.set(0, 45);
    Check.due("undo", x.undo(), 1);
    Check.due("load", x.count(11), 32);
    Check.due("setting", x.count(20), 44);
    Check.due("undo", x.undo(), 0);
    Check.due("load", x.count(11), 31);
    Check.due("setting", x.count(20), 43);
    Check.due("undo", x.undo(), -1);
    Check.due("load", x.count(11), 31);
  }

  private static void undoingTheLatestEight() {
    TrainingBook x = new TrainingBook();
    x.group(0, 0);
    for (int day = 0; day < 12; day++) {
      x.plan(0, day, day, 1);
      Check.due("can be undone", x.count(3), Math.min(8, day + 2));
    }
    for (int left = 7; left >= 0; left--) {
      Check.due("undo", x.undo(), left);
      Check.due("taken back", x.day(0, left + 4, 0), 0);
      Check.due("the one ahead stands", x.day(0, left + 3, 0), 1);
    }
    Check.due("undo", x.undo(), -1);
    Check.due("the group stands", x.count(0), 1);
    x.plan(0, 20, 20, 2);
    Check.due("one more", x.count(3), 1);
    Check.due("undo it", x.undo(), 0);
    Check.due("taken back", x.day(0, 20, 0), 0);
    Check.due("the 4th stands", x.day(0, 3, 0), 1);
  }

  private static void undoingGroupsLeavesNoKinds() {
    TrainingBook x = new TrainingBook();
    Check.told(x, "group 1 1; plan 0 0 70 race;", 2);
    Check.due("undo", x.undo(), 0);
    Check.due("group", x.group(5, 5), 0);
    Check.due("rest at first", x.plan(0, 0, 69, 0), 0);
    Check.faulty(x, "group 1 1; plan 1 0 70 race; x", 1, 29);
    Check.due("group", x.group(5, 5), 1);
    Check.due("rest at first", x.plan(1, 0, 69, 0), 0);
  }

  private static void counts() {
    TrainingBook x = new TrainingBook();
    int[] none = {-1, 4, 9, 16, 19, 28, 100, Integer.MAX_VALUE, Integer.MIN_VALUE};
    for (int what : none) Check.due("count(" + what + ")", x.count(what), -1);
    x.group(0, 0);
    x.camp(0, 0);
    x.camp(0, 0);
    x.feed(0, 0, 0, 0, 0);
    Check.due("groups", x.count(0), 1);
    Check.due("camps", x.count(1), 2);
    Check.due("bytes", x.count(2), 20);
    Check.due("to undo", x.count(3), 3);
  }
}

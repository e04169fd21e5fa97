/** Promises 1 to 14: each sentence that names a boundary case, by a test of its own. */
public final class ToldEdgeTest {
  private static final int NONE = -1;
  private static final int NO_FORM = -1000000000;
  private static final int[] FAR = {-1, -2, 100, 10000, Integer.MAX_VALUE, Integer.MIN_VALUE};

  public static void main(String[] args) {
    newObjects();
    tapes();
    tells();
    groupsLoadsAndSettings();
    camps();
    plans();
    undos();
    counts();
    Check.finish();
  }

  private static TrainingBook alone() {
    TrainingBook x = new TrainingBook();
    x.group(0, 0);
    return x;
  }

  private static TrainingBook full() {
    TrainingBook x = new TrainingBook();
    for (int g = 0; g < 6; g++) x.group(g, g);
    for (int c = 0; c < 4; c++) x.camp(10 * c, 10 * c + 5);
    return x;
  }

  /** All that undo() brings back, as one number by which two states can be told apart (by few calls: an object has 512). */
  private static long stateOf(TrainingBook x) {
    int groups = x.count(0);
    int camps = x.count(1);
    long sum = groups * 31L + camps;
    for (int kind = 1; kind < 6; kind++) sum = sum * 31 + x.count(10 + kind);
    for (int s = 0; s < 8; s++) sum = sum * 31 + x.count(20 + s);
    for (int c = 0; c < camps; c++) sum = (sum * 31 + x.camped(c, false)) * 31 + x.camped(c, true);
    for (int g = 0; g < groups; g++) {
      sum = sum * 31 + x.form(g, 0);
      sum = sum * 31 + x.form(g, 69);
      sum = sum * 31 + x.day(g, 60, 0);
    }
    return sum;
  }

  private static void newObjects() {
    Check.edge("`TrainingBook()`: No GROUPS, no CAMPS.", () -> {
      TrainingBook x = new TrainingBook();
      for (int what = 0; what < 4; what++) Check.due("count " + what, x.count(what), 0);
      Check.due("day", x.day(0, 0, 0), NONE);
      Check.due("form", x.form(0, 0), NO_FORM);
      Check.due("week", x.week(0, 0), NONE);
      Check.due("injured", x.injured(0, 0, 0), NONE);
      Check.due("peak", x.peak(0, 0, 0), NONE);
      Check.due("taper", x.taper(0, 0), NONE);
      Check.due("best", x.best(0, 0, 0, 0), NO_FORM);
      Check.due("team of none", x.team(0, 0), 0);
      Check.due("team of one", x.team(0, 1), NONE);
      Check.due("safe", x.safe(0, 0), NONE);
      Check.due("row", x.row(0, 0, 0), NONE);
      Check.due("swap", x.swap(0, 0, 0, 0), NO_FORM);
      Check.due("without", x.without(0, 0, 0), NO_FORM);
      Check.due("ahead", x.ahead(0, 0, 0), NONE);
      Check.due("plan", x.plan(0, 0, 0, 0), NONE);
      Check.due("strike", x.strike(0), NONE);
      Check.due("camped", Check.throwsNoSuch(x, 0, false), true);
      Check.due("undo", x.undo(), NONE);
      Check.due("another one is another's", otherIsApart(), true);
    });
    Check.edge("An object is used for at most 512 calls after it has been made", () -> {
      TrainingBook x = new TrainingBook();
      for (int call = 1; call < 509; call++) {
        Check.due("call " + call, call % 2 == 1 ? x.group(5, 5) : x.undo(), 0);
      }
      Check.due("call 509", x.group(1000, 500), 0);
      Check.due("call 510", x.plan(0, 0, 1, 3), 2);
      Check.due("call 511", x.form(0, 0), -781);
      Check.due("call 512", x.undo(), 1);
    });
    Check.edge("`NONE = -1`: There is none.", () -> Check.due("NONE", TrainingBook.NONE, -1));
    Check.edge("`NO_FORM = -1000000000`: Told where a number below 0 may be one.", () -> Check.due("NO_FORM", TrainingBook.NO_FORM, -1000000000));
  }

  private static boolean otherIsApart() {
    TrainingBook x = full();
    TrainingBook y = new TrainingBook();
    x.load(1, 7);
    x.feed(1, 2, 3, 4, 5);
    return y.count(0) + y.count(1) + y.count(2) + y.count(3) == 0 && y.count(11) == 30 && x.count(0) == 6;
  }

  private static void tapes() {
    Check.edge("Twenty bytes come behind the TAPE, of each number the highest first: how many it has.", () -> {
      TrainingBook x = alone();
      Check.due("20", x.feed(0x73657420, 0x3020393b, 0x73657420, 0x3120383b, 0x2020ff80), 20);
      Check.due("end", x.end(18), true);
      Check.due("38", x.feed(0x73657420, 0x3220373b, 0x20202020, 0x20202020, 0x20202020), 38);
      Check.due("tell of set 0 9;set 1 8;  set 2 7;", x.tell(), 3);
      int[] due = {9, 8, 7};
      for (int s = 0; s < 3; s++) Check.due("setting " + s, x.count(20 + s), due[s]);
      x.feed(-1, Integer.MIN_VALUE, Integer.MAX_VALUE, 0, 1);
      Check.due("bytes above 127", x.tell(), NONE);
      Check.due("can't stand there", x.fault(), 1);
    });
    Check.edge("NONE, and none come: more than 400.", () -> {
      TrainingBook x = alone();
      for (int n = 20; n <= 400; n += 20) Check.due("feed up to " + n, x.feed(0x20202020, 0x20202020, 0x20202020, 0x20202020, 0x20202020), n);
      Check.due("up to 420", x.feed(1, 1, 1, 1, 1), NONE);
      Check.due("none came", x.count(2), 400);
      Check.due("end", x.end(381), true);
      Check.due("up to 401", x.feed(1, 1, 1, 1, 1), NONE);
      Check.due("none came", x.count(2), 381);
      Check.due("blanks all", x.tell(), 0);
      for (int n = 20; n <= 400; n += 20) x.feed(0x20202020, 0x20202020, 0x20202020, 0x20202020, 0x20202020);
      Check.due("end", x.end(380), true);
      Check.due("up to 400", x.feed(0x20202020, 0x20202020, 0x20202020, 0x20202020, 0x2020203b), 400);
      Check.due("tell", x.tell(), NONE);
      Check.due("the 400th byte", x.fault(), 1 + 8 * 399);
    });
    Check.edge("The TAPE has its first n bytes alone: true", () -> {
      TrainingBook x = alone();
      Check.due("0 of none", x.end(0), true);
      Check.put(x, "set 0 9;set 0 8;");
      Check.due("all of them", x.end(16), true);
      Check.due("all are there", x.count(2), 16);
      Check.due("8", x.end(8), true);
      Check.due("8 are there", x.count(2), 8);
      Check.due("tell", x.tell(), 1);
      Check.due("the first eight alone", x.count(20), 9);
      Check.put(x, "blue");
      Check.due("0", x.end(0), true);
      Check.due("none is there", x.count(2), 0);
      Check.due("tell of none", x.tell(), 0);
    });
    Check.edge("false: it has not so many, n is below 0.", () -> {
      TrainingBook x = alone();
      Check.due("1 of none", x.end(1), false);
      Check.due("-1 of none", x.end(-1), false);
      x.feed(0, 0, 0, 0, 0);
      for (int n : new int[] {21, 400, 401, Integer.MAX_VALUE, -1, -20, Integer.MIN_VALUE}) {
        Check.due("end " + n, x.end(n), false);
        Check.due("all are there", x.count(2), 20);
      }
      x.end(10);
      Check.due("what was cut does not come back", x.end(20), false);
    });
  }

  private static void tells() {
    Check.edge("The TAPE (empty then) is told: how many STATEMENTS.", () -> {
      TrainingBook x = alone();
      Check.due("none of nothing", x.tell(), 0);
      Check.told(x, "set 0 9;set 0 9;set 0 9;", 3);
      Check.due("empty then", x.count(2), 0);
      Check.due("told again it is nothing", x.tell(), 0);
      Check.faulty(x, "blue", 1, 0);
      Check.due("empty behind a fault, too", x.count(2), 0);
    });
    Check.edge("NONE: a FAULT (all else stays as it was).", () -> {
      TrainingBook x = alone();
      Check.told(x, "group 5 6;camp 3 4;plan 1 0 7 hard;load easy 31;set 4 151;", 5);
      long state = stateOf(x);
      Check.faulty(x, "group 7 7;camp 1 2;load easy 32;set 4 152;plan 0 0 9 race;plan 1 0 9 race;plan 2 0 9 race;blue", 1, 90);
      Check.due("state", stateOf(x), state);
      Check.due("to undo", x.count(3), 2);
      Check.faulty(x, "plan 1 0 again 2(easy 40 race);", 4, 29);
      Check.due("state", stateOf(x), state);
      Check.due("undo", x.undo(), 1);
      Check.due("it undid the text without a fault", x.count(0), 1);
    });
    Check.edge("FAULT of the latest tell(); 0 without, ahead of any.", () -> {
      TrainingBook x = new TrainingBook();
      Check.due("ahead of any", x.fault(), 0);
      Check.faulty(x, "  blue", 1, 2);
      Check.due("asked again", x.fault(), 17);
      x.group(1, 1);
      Check.put(x, "camp");
      Check.due("until told", x.fault(), 17);
      Check.due("tell", x.tell(), NONE);
      Check.due("the latest", x.fault(), 33);
      Check.due("undo", x.undo(), 0);
      Check.due("undo leaves it", x.fault(), 33);
      Check.due("tell of nothing", x.tell(), 0);
      Check.due("0 without", x.fault(), 0);
    });
  }

  private static void groupsLoadsAndSettings() {
    Check.edge("A GROUP more: its number. NONE: it can't be; -2: there are 6.", () -> {
      TrainingBook x = new TrainingBook();
      for (int v : new int[] {-1, 10000, Integer.MAX_VALUE, Integer.MIN_VALUE}) {
        Check.due("fit " + v, x.group(v, 0), NONE);
        Check.due("tired " + v, x.group(0, v), NONE);
        Check.due("both " + v, x.group(v, v), NONE);
      }
      Check.due("none came", x.count(0) + x.count(3), 0);
      for (int g = 0; g < 6; g++) Check.due("group", x.group(9999, 9999), g);
      Check.due("there are 6", x.group(0, 0), -2);
      Check.due("none to undo by it", x.count(3), 6);
      Check.due("there are 6, and it can't be", x.group(0, 10000), NONE);
      x.undo();
      Check.due("there is room again", x.group(0, 0), 5);
    });
    Check.edge("LOAD of a KIND is another one: true.", () -> {
      TrainingBook x = alone();
      for (int kind = 1; kind < 6; kind++) Check.due("to 1", x.load(kind, 1), true);
      for (int kind = 1; kind < 6; kind++) Check.due("is 1", x.count(10 + kind), 1);
      Check.due("none to undo", x.count(3), 1);
    });
    Check.edge("false: it is so, there is none such (rest, too), it can't be.", () -> {
      TrainingBook x = alone();
      int[] first = {0, 30, 60, 90, 120, 200};
      for (int kind = 0; kind < 6; kind++) {
        Check.due("it is so", x.load(kind, first[kind]), false);
        for (int v : new int[] {-1, 301, Integer.MAX_VALUE, Integer.MIN_VALUE}) Check.due("it can't be", x.load(kind, v), false);
        Check.due("it stays", x.count(10 + kind), first[kind]);
      }
      Check.due("rest", x.load(0, 1), false);
      for (int kind : new int[] {-1, 6, 10, Integer.MAX_VALUE, Integer.MIN_VALUE}) Check.due("kind " + kind, x.load(kind, 1), false);
    });
    Check.edge("A SETTING is another number: likewise.", () -> {
      TrainingBook x = alone();
      int[] first = {42, 7, 1, 2, 150, 5, 2100, 150};
      for (int s = 0; s < 8; s++) {
        Check.due("it is so", x.set(s, first[s]), false);
        for (int v : new int[] {-1, 2101, Integer.MAX_VALUE, Integer.MIN_VALUE}) Check.due("it can't be", x.set(s, v), false);
        Check.due("it stays", x.count(20 + s), first[s]);
        Check.due("another", x.set(s, first[s] == 1 ? 2 : first[s] - 1), true);
      }
      for (int s : new int[] {-1, 8, Integer.MAX_VALUE, Integer.MIN_VALUE}) Check.due("setting " + s, x.set(s, 5), false);
      Check.due("none to undo", x.count(3), 1);
    });
  }

  private static void camps() {
    Check.edge("A CAMP more, DAYS a to b: its number. NONE: they can't be; -2: there are 4.", () -> {
      TrainingBook x = new TrainingBook();
      Check.due("b below a", x.camp(1, 0), NONE);
      Check.due("b below a, far", x.camp(69, 0), NONE);
      Check.due("-1 to 0", x.camp(-1, 0), NONE);
      Check.due("69 to 70", x.camp(69, 70), NONE);
      Check.due("MIN to MAX", x.camp(Integer.MIN_VALUE, Integer.MAX_VALUE), NONE);
      Check.due("none came", x.count(1) + x.count(3), 0);
      Check.due("0 to 0", x.camp(0, 0), 0);
      Check.due("69 to 69", x.camp(69, 69), 1);
      Check.due("0 to 69", x.camp(0, 69), 2);
      Check.due("once more", x.camp(0, 69), 3);
      Check.due("there are 4", x.camp(0, 69), -2);
      Check.due("there are 4, and they can't be", x.camp(5, 4), NONE);
      Check.due("none to undo by these", x.count(3), 4);
    });
    Check.edge("A CAMP goes (those behind it are one less): how many are left.", () -> {
      for (int gone = 0; gone < 4; gone++) {
        TrainingBook x = full();
        Check.due("strike " + gone, x.strike(gone), 3);
        for (int c = 0; c < 3; c++) {
          int was = c < gone ? c : c + 1;
          Check.due("first of " + c, x.camped(c, false), 10 * was);
          Check.due("last of " + c, x.camped(c, true), 10 * was + 5);
        }
        Check.due("there is no 3", Check.throwsNoSuch(x, 3, false), true);
        for (int left = 2; left >= 0; left--) Check.due("strike the first", x.strike(0), left);
        Check.due("there are none", x.count(1), 0);
        Check.due("one comes", x.camp(1, 2), 0);
      }
    });
    Check.edge("`int strike(int camp)`: A CAMP goes (those behind it are one less): how many are left. NONE: there is none such.", () -> {
      TrainingBook x = new TrainingBook();
      Check.due("of none", x.strike(0), NONE);
      x.camp(0, 1);
      for (int c : FAR) Check.due("strike " + c, x.strike(c), NONE);
      Check.due("strike 1 of one", x.strike(1), NONE);
      Check.due("it is there", x.count(1), 1);
      Check.due("none to undo by these", x.count(3), 1);
    });
    Check.edge("Of a CAMP its first DAY, or (last) its last one.", () -> {
      TrainingBook x = full();
      Check.due("first", x.camped(0, false), 0);
      Check.due("last", x.camped(3, true), 35);
      x.strike(0);
      x.camp(69, 69);
      Check.due("one day, first", x.camped(3, false), 69);
      Check.due("one day, last", x.camped(3, true), 69);
    });
    Check.edge("NoSuchElementException: there is none such.", () -> {
      TrainingBook x = new TrainingBook();
      Check.due("of none", Check.throwsNoSuch(x, 0, true), true);
      for (int n = 1; n <= 4; n++) {
        x.camp(0, 69);
        for (int c : FAR) Check.due("camped " + c, Check.throwsNoSuch(x, c, c > 0), true);
        Check.due("one beyond", Check.throwsNoSuch(x, n, false), true);
        Check.due("the last one", Check.throwsNoSuch(x, n - 1, false), false);
      }
      x.undo();
      Check.due("one that was undone", Check.throwsNoSuch(x, 3, true), true);
    });
  }

  private static void plans() {
    Check.edge("DAYS a to b of a GROUP's PLAN are of a KIND: how many of them became others.", () -> {
      TrainingBook x = full();
      Check.due("all", x.plan(5, 0, 69, 5), 70);
      Check.due("none", x.plan(5, 0, 69, 5), 0);
      Check.due("the first", x.plan(5, 0, 0, 4), 1);
      Check.due("the last", x.plan(5, 69, 69, 4), 1);
      Check.due("those between", x.plan(5, 0, 69, 4), 68);
      Check.due("the one ahead is untouched", x.plan(4, 0, 69, 0), 0);
      Check.due("back to rest", x.plan(5, 1, 68, 0), 68);
      Check.due("both ends stand", x.day(5, 0, 0) + x.day(5, 69, 0), 8);
    });
    Check.edge("NONE: there are none such, b is below a.", () -> {
      TrainingBook x = alone();
      x.group(0, 0);
      int undos = x.count(3);
      for (int g : FAR) Check.due("group " + g, x.plan(g, 0, 69, 1), NONE);
      Check.due("group 2 of 2", x.plan(2, 0, 69, 1), NONE);
      for (int kind : FAR) Check.due("kind " + kind, x.plan(0, 0, 69, kind), NONE);
      Check.due("kind 6", x.plan(0, 0, 69, 6), NONE);
      for (int day : FAR) Check.due("from " + day, x.plan(0, day, 69, 1), NONE);
      for (int day : FAR) Check.due("to " + day, x.plan(0, 0, day, 1), NONE);
      Check.due("to 70", x.plan(0, 69, 70, 1), NONE);
      Check.due("70 alone", x.plan(0, 70, 70, 1), NONE);
      Check.due("b one below a", x.plan(0, 35, 34, 1), NONE);
      Check.due("b far below a", x.plan(0, 69, 0, 1), NONE);
      Check.due("all at rest", x.plan(0, 0, 69, 0) + x.plan(1, 0, 69, 0), 0);
      Check.due("none to undo by these", x.count(3), undos);
    });
  }

  private static void undos() {
    Check.edge("PLANS, GROUPS, CAMPS, LOADS, SETTINGS are as they were ahead of the latest tell(), plan(), group(), camp(), strike() that was done", () -> {
      TrainingBook x = alone();
      x.camp(1, 2);
      x.load(2, 61);
      x.set(0, 43);
      long[] states = new long[6];
      states[0] = stateOf(x);
      for (int call = 0; call < 5; call++) {
        Check.due("call " + call + " is done", doneCall(x, call) >= 0, true);
        x.load(1, 31 + call);
        x.set(1, 8 + call);
        states[call + 1] = stateOf(x);
        Check.due("another state", states[call + 1] != states[call], true);
      }
      for (int call = 4; call >= 0; call--) {
        Check.due("undo", x.undo(), call + 2);
        Check.due("as ahead of call " + call, stateOf(x), states[call]);
      }
      Check.due("load that was told ahead of all", x.count(12), 61);
    });
    Check.edge("(a plan() of which none became others is not; the latest 8)", () -> {
      TrainingBook x = alone();
      Check.due("none became others", x.plan(0, 0, 69, 0), 0);
      Check.due("it is not", x.count(3), 1);
      for (int d = 0; d < 30; d++) {
        x.plan(0, d, d, 1);
        x.plan(0, d, d, 1);
        Check.due("at most 8", x.count(3), Math.min(8, d + 2));
      }
      for (int left = 7; left >= 0; left--) {
        Check.due("undo", x.undo(), left);
        Check.due("taken back", x.day(0, 22 + left, 0), 0);
        Check.due("the one ahead", x.day(0, 21 + left, 0), 1);
      }
      Check.due("a 9th", x.undo(), NONE);
      Check.due("it stands", x.day(0, 21, 0), 1);
    });
    Check.edge("latest tell(), plan(), group(), camp(), strike() that was done", () -> {
      TrainingBook x = full();
      Check.due("8 of 10", x.count(3), 8);
      x.undo();
      x.undo();
      int undos = x.count(3);
      Check.due("group refused", x.group(-1, 0), NONE);
      Check.due("camp refused", x.camp(3, 2), NONE);
      Check.due("strike refused", x.strike(2), NONE);
      Check.due("plan refused", x.plan(6, 0, 1, 1), NONE);
      Check.faulty(x, "camp 1 2;blue", 1, 9);
      Check.due("a group too many", x.group(0, 0), -2);
      Check.due("none of these is to undo", x.count(3), undos);
      x.camp(1, 1);
      x.camp(1, 1);
      Check.due("a camp too many", x.camp(0, 0), -2);
      Check.due("nor this", x.count(3), 8);
      Check.due("a text of nothing is done", x.tell(), 0);
      Check.due("8 still", x.count(3), 8);
      Check.due("it is undone", x.undo(), 7);
      Check.due("nothing changed by it", x.count(1), 4);
      Check.told(x, "plan 0 0 rest;", 1);
      Check.due("a text by which none became others is done", x.count(3), 8);
    });
    Check.edge("how many of these are left. NONE: none can be undone.", () -> {
      TrainingBook x = new TrainingBook();
      Check.due("of none", x.undo(), NONE);
      x.load(1, 31);
      x.set(0, 43);
      Check.due("load and set are none", x.undo(), NONE);
      Check.due("they stay", x.count(11) + x.count(20), 31 + 43);
      x.group(1, 1);
      x.camp(0, 0);
      Check.due("one is left", x.undo(), 1);
      Check.due("none is left", x.undo(), 0);
      Check.due("no more", x.undo(), NONE);
      Check.due("what is undone is not done again", x.undo(), NONE);
      Check.due("as at first", x.count(0) + x.count(1), 0);
      x.feed(0, 0, 0, 0, 0);
      x.group(1, 1);
      x.undo();
      Check.due("the tape is nothing that is undone", x.count(2), 20);
    });
  }

  private static int doneCall(TrainingBook x, int call) {
    switch (call) {
      case 0:
        return Check.tell(x, "group 3 4;camp 5 6;load hard 91;set 2 3;plan 0 60 easy;");
      case 1:
        return x.plan(1, 0, 69, 2);
      case 2:
        return x.group(7, 8);
      case 3:
        return x.camp(9, 10);
      default:
        return x.strike(0);
    }
  }

  private static void counts() {
    Check.edge("What 0: GROUPS, 1: CAMPS, 2: bytes of the TAPE, 3: how many can be undone, 10 to 15: LOADS of KINDS 0 to 5, 20 to 27: SETTINGS 0 to 7.", () -> {
      TrainingBook x = full();
      x.feed(0, 0, 0, 0, 0);
      x.end(13);
      int[] due = {6, 4, 13, 8};
      for (int what = 0; what < 4; what++) Check.due("count " + what, x.count(what), due[what]);
      for (int kind = 1; kind < 6; kind++) x.load(kind, kind);
      for (int kind = 0; kind < 6; kind++) Check.due("count " + (10 + kind), x.count(10 + kind), kind);
      int[] most = {99, 99, 9, 9, 400, 14, 2100, 300};
      for (int s = 0; s < 8; s++) x.set(s, most[s]);
      for (int s = 0; s < 8; s++) Check.due("count " + (20 + s), x.count(20 + s), most[s]);
    });
    Check.edge("NONE for another what.", () -> {
      TrainingBook x = full();
      for (int what = -10; what < 100; what++) {
        boolean one = what >= 0 && what <= 3 || what >= 10 && what <= 15 || what >= 20 && what <= 27;
        if (!one) Check.due("count " + what, x.count(what), NONE);
      }
      Check.due("count MAX", x.count(Integer.MAX_VALUE), NONE);
      Check.due("count MIN", x.count(Integer.MIN_VALUE), NONE);
    });
  }
}

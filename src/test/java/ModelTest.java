import java.util.Random;

/**
 * Runs of calls, always the same ones, on the class and on Model: all answers are alike. The
 * calls are of all promises, mostly with arguments that can be, now and then with others.
 */
public final class ModelTest {
  private static final int[] ODD = {-1, 0, 1, 6, 69, 70, 71, 100, 9999, 10000, Integer.MAX_VALUE, Integer.MIN_VALUE};
  private static final int RUNS = 150;
  private static final int CALLS = 300;

  private final Random random;
  private final TrainingBook x = new TrainingBook();
  private final Model m = new Model();

  private ModelTest(long seed) {
    random = new Random(seed);
  }

  public static void main(String[] args) {
    int runs = args.length > 0 ? Integer.parseInt(args[0]) : RUNS;
    long first = args.length > 1 ? Long.parseLong(args[1]) : 1;
    for (long seed = first; seed < first + runs && Check.wrongSoFar() == 0; seed++) {
      ModelTest run = new ModelTest(seed);
      run.begin();
      for (int call = 0; call < CALLS && Check.wrongSoFar() == 0; call++) run.call(seed + "." + call + ": ");
    }
    Check.finish();
  }

  private int below(int n) {
    return random.nextInt(n);
  }

  private int or(int v) {
    return below(40) == 0 ? ODD[below(ODD.length)] : v;
  }

  private int aGroup() {
    return or(below(Math.max(1, m.count(0))));
  }

  private int aDay() {
    return or(below(70));
  }

  private int aCamp() {
    return or(below(Math.max(1, m.count(1))));
  }

  private void begin() {
    if (below(4) == 0) return;
    for (int g = below(6); g >= 0; g--) {
      int fit = below(10000);
      int tired = below(5000);
      same("group", x.group(fit, tired), m.group(fit, tired));
    }
    tell("", wholePlan());
  }

  private void same(String call, long got, long want) {
    Check.due(call, got, want);
  }

  private void call(String at) {
    switch (below(26)) {
      case 0 -> tell(at, below(3) == 0 ? wholePlan() : someText());
      case 1 -> tell(at, spoilt(below(3) == 0 ? wholePlan() : someText()));
      case 2 -> {
        int n = or(below(420) - 10);
        same(at + "end " + n, x.end(n) ? 1 : 0, m.end(n) ? 1 : 0);
        feed(at);
      }
      case 3 -> {
        int fit = or(below(10000));
        int tired = or(below(10000));
        same(at + "group", x.group(fit, tired), m.group(fit, tired));
      }
      case 4 -> {
        int kind = or(below(6));
        int v = or(below(310));
        same(at + "load", x.load(kind, v) ? 1 : 0, m.load(kind, v) ? 1 : 0);
      }
      case 5 -> {
        int setting = or(below(8));
        int s = Math.floorMod(setting, 8);
        int v = or(Model.RANGES[s][0] - 1 + below(Model.RANGES[s][1] - Model.RANGES[s][0] + 3));
        same(at + "set", x.set(setting, v) ? 1 : 0, m.set(setting, v) ? 1 : 0);
      }
      case 6 -> {
        int a = aDay();
        int b = or(Math.min(69, a + below(14) - 1));
        same(at + "camp", x.camp(a, b), m.camp(a, b));
      }
      case 7 -> {
        int c = aCamp();
        if (below(3) == 0) same(at + "strike", x.strike(c), m.strike(c));
      }
      case 8, 9 -> {
        int g = aGroup();
        int a = aDay();
        int b = or(Math.min(69, a + below(20) - 1));
        int kind = or(below(6));
        same(at + "plan", x.plan(g, a, b, kind), m.plan(g, a, b, kind));
      }
      case 10 -> {
        if (below(2) == 0) same(at + "undo", x.undo(), m.undo());
      }
      case 11 -> {
        for (int what = -1; what < 30; what++) same(at + "count " + what, x.count(what), m.count(what));
        same(at + "fault", x.fault(), m.fault);
        camped(at, aCamp(), below(2) == 0);
      }
      default -> ask(at, below(17));
    }
  }

  private void ask(String at, int which) {
    int g = aGroup();
    int d = aDay();
    int e = or(d < 0 || d > 69 || below(10) == 0 ? below(70) : d + below(70 - d));
    switch (which) {
      case 0, 1 -> {
        int what = or(below(8));
        same(at + "day", x.day(g, d, what), m.day(g, d, what));
      }
      case 2 -> same(at + "form", x.form(g, d), m.form(g, d));
      case 3 -> {
        int w = or(below(10));
        same(at + "week", x.week(g, w), m.week(g, w));
      }
      case 4 -> same(at + "injured", x.injured(g, d, e), m.injured(g, d, e));
      case 5 -> same(at + "peak", x.peak(g, d, e), m.peak(g, d, e));
      case 6, 7 -> same(at + "taper", x.taper(g, d), m.taper(g, d));
      case 8 -> {
        int n = or(below(30) == 0 ? 4 : below(3));
        int what = or(below(2));
        same(at + "best", x.best(g, d, n, what), m.best(g, d, n, what));
      }
      case 9 -> {
        int k = or(below(7));
        same(at + "team", x.team(d, k), m.team(d, k));
      }
      case 10, 11 -> same(at + "safe", x.safe(g, d), m.safe(g, d));
      case 12 -> same(at + "row", x.row(g, d, e), m.row(g, d, e));
      case 13 -> {
        int a = aDay();
        int b = aDay();
        same(at + "swap", x.swap(g, d, a, b), m.swap(g, d, a, b));
      }
      case 14 -> {
        int c = aCamp();
        same(at + "without", x.without(g, d, c), m.without(g, d, c));
      }
      case 15 -> {
        int other = aGroup();
        same(at + "ahead", x.ahead(g, other, d), m.ahead(g, other, d));
      }
      default -> wholeGroup(at, g);
    }
  }

  private void wholeGroup(String at, int g) {
    for (int d = 0; d < 70; d += 1 + below(8)) {
      for (int what = 0; what < 8; what++) {
        same(at + "day " + d + " " + what, x.day(g, d, what), m.day(g, d, what));
      }
    }
  }

  private void camped(String at, int c, boolean last) {
    int want = m.camped(c, last);
    boolean threw = Check.throwsNoSuch(x, c, last);
    same(at + "camped throws", threw ? 1 : 0, want == Integer.MIN_VALUE ? 1 : 0);
    if (!threw && want != Integer.MIN_VALUE) same(at + "camped", x.camped(c, last), want);
  }

  private void feed(String at) {
    int[] f = new int[5];
    for (int i = 0; i < 5; i++) f[i] = below(2) == 0 ? random.nextInt() : 0x20202020;
    same(at + "feed", x.feed(f[0], f[1], f[2], f[3], f[4]), m.feed(f));
  }

  private void tell(String at, String text) {
    if (below(4) != 0) same(at + "end 0", x.end(0) ? 1 : 0, m.end(0) ? 1 : 0);
    int want = m.count(2) + text.length();
    StringBuilder padded = new StringBuilder(text);
    while (padded.length() % 20 != 0) padded.append(' ');
    for (int i = 0; i < padded.length(); i += 20) {
      int[] f = new int[5];
      for (int k = 0; k < 20; k++) f[k / 4] = f[k / 4] << 8 | padded.charAt(i + k) & 255;
      same(at + "feed", x.feed(f[0], f[1], f[2], f[3], f[4]), m.feed(f));
    }
    if (below(10) != 0) same(at + "end " + want, x.end(want) ? 1 : 0, m.end(want) ? 1 : 0);
    same(at + "tell of " + text, x.tell(), m.tell());
    same(at + "fault of " + text, x.fault(), m.fault);
  }

  private static int held(int v, int least, int most) {
    return Math.max(least, Math.min(most, v));
  }

  // A plan whose weeks grow, so that there are injuries, but not on all days.
  private String wholePlan() {
    int g = held(m.count(0) - 1, 0, 5);
    StringBuilder s = new StringBuilder("plan " + below(g + 1) + " " + below(3));
    s.append(" again ").append(2 + below(4)).append("(").append(item(2)).append(" ").append(item(2)).append(")");
    for (int i = below(10); i > 0; i--) s.append(" ").append(item(1));
    return s.append(";").toString();
  }

  private String item(int depth) {
    if (depth > 0 && below(4) == 0) {
      StringBuilder s = new StringBuilder("again " + (1 + below(4)) + "(" + item(depth - 1));
      while (below(2) == 0) s.append(" ").append(item(depth - 1));
      return s.append(")").toString();
    }
    String name = Model.NAMES.get(below(6));
    return below(3) == 0 ? (1 + below(5)) + " " + name : name;
  }

  private String someText() {
    StringBuilder s = new StringBuilder();
    for (int i = below(6); i >= 0; i--) {
      int setting = below(8);
      int[] range = Model.RANGES[setting];
      int a = below(70);
      switch (below(6)) {
        case 0 -> s.append("group ").append(below(10000)).append(" ").append(below(10000));
        case 1 -> s.append("load ").append(Model.NAMES.get(below(30) == 0 ? 0 : 1 + below(5))).append(" ").append(below(304));
        case 2 -> s.append("camp ").append(a).append(" ").append(below(15) == 0 ? below(72) : a + below(70 - a));
        case 3 -> s.append("set ").append(setting).append(" ").append(range[0] + below(range[1] - range[0] + 1));
        default -> {
          s.append("plan ").append(below(Math.max(1, m.count(0)))).append(" ").append(a);
          for (int k = below(5); k > 0; k--) s.append(below(6) == 0 ? "\n" : " ").append(item(below(12) == 0 ? 6 : 2));
        }
      }
      s.append(below(5) == 0 ? " ; " : ";");
    }
    s.setLength(Math.min(s.length(), 400));
    return s.toString();
  }

  // One to three changes of single bytes or whole tokens.
  private String spoilt(String text) {
    String[] put = {"", ";", "(", ")", " ", "\n", "0", "1", "9", "70", "71", "00001", "again", "again 1(", "easy", "rest",
      "x", "group", "camp", "A", "-", "\u00ff", "\u0000", "plan 0 0 ", "2 "};
    StringBuilder s = new StringBuilder(text);
    for (int i = below(3); i >= 0; i--) {
      int at = below(s.length() + 1);
      int end = Math.min(s.length(), at + below(3));
      s.replace(at, end, put[below(put.length)]);
    }
    s.setLength(Math.min(s.length(), 400));
    return s.toString();
  }
}

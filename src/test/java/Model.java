import java.util.ArrayDeque;
import java.util.ArrayList;
import java.util.Arrays;
import java.util.Deque;
import java.util.List;

/**
 * The document once more, written as slowly and as plainly as can be and apart from the
 * class: every number is summed anew from the words of the document. ModelTest compares
 * the two.
 */
final class Model {
  static final int NONE = -1;
  static final int NO_FORM = -1000000000;
  static final List<String> NAMES = List.of("rest", "easy", "steady", "hard", "long", "race");
  static final int[][] RANGES = {{2, 99}, {2, 99}, {1, 9}, {1, 9}, {100, 400}, {1, 14}, {0, 2100}, {100, 300}};

  static final class State {
    List<int[]> groups = new ArrayList<>();
    List<int[]> plans = new ArrayList<>();
    List<int[]> camps = new ArrayList<>();
    int[] loads = {0, 30, 60, 90, 120, 200};
    int[] settings = {42, 7, 1, 2, 150, 5, 2100, 150};

    State copy() {
      State s = new State();
      for (int[] g : groups) s.groups.add(g.clone());
      for (int[] p : plans) s.plans.add(p.clone());
      for (int[] c : camps) s.camps.add(c.clone());
      s.loads = loads.clone();
      s.settings = settings.clone();
      return s;
    }
  }

  static final class Fault extends Exception {
    private static final long serialVersionUID = 1L;
    final int told;

    Fault(int kind, int place) {
      told = kind + 8 * place;
    }
  }

  State state = new State();
  final Deque<State> past = new ArrayDeque<>();
  final StringBuilder tape = new StringBuilder();
  int fault = 0;

  // ---- what is told

  int feed(int... fours) {
    if (tape.length() + 20 > 400) return NONE;
    for (int four : fours) {
      tape.append((char) (four >>> 24)).append((char) (four >>> 16 & 255));
      tape.append((char) (four >>> 8 & 255)).append((char) (four & 255));
    }
    return tape.length();
  }

  boolean end(int n) {
    if (n < 0 || n > tape.length()) return false;
    tape.setLength(n);
    return true;
  }

  int tell() {
    String text = tape.toString();
    tape.setLength(0);
    State draft = state.copy();
    try {
      int statements = new Reader(text, draft).text();
      push();
      state = draft;
      fault = 0;
      return statements;
    } catch (Fault f) {
      fault = f.told;
      return NONE;
    }
  }

  private void push() {
    past.addLast(state.copy());
    if (past.size() > 8) past.removeFirst();
  }

  int group(int fit, int tired) {
    if (fit < 0 || fit > 9999 || tired < 0 || tired > 9999) return NONE;
    if (state.groups.size() == 6) return -2;
    push();
    state.groups.add(new int[] {fit, tired});
    state.plans.add(new int[70]);
    return state.groups.size() - 1;
  }

  boolean load(int kind, int v) {
    if (kind < 1 || kind > 5 || v < 0 || v > 300 || state.loads[kind] == v) return false;
    state.loads[kind] = v;
    return true;
  }

  boolean set(int setting, int v) {
    if (setting < 0 || setting > 7 || v < RANGES[setting][0] || v > RANGES[setting][1]) return false;
    if (state.settings[setting] == v) return false;
    state.settings[setting] = v;
    return true;
  }

  int camp(int a, int b) {
    if (!days(a, b)) return NONE;
    if (state.camps.size() == 4) return -2;
    push();
    state.camps.add(new int[] {a, b});
    return state.camps.size() - 1;
  }

  int strike(int camp) {
    if (!isCamp(camp)) return NONE;
    push();
    state.camps.remove(camp);
    return state.camps.size();
  }

  int plan(int group, int a, int b, int kind) {
    if (!isGroup(group) || !days(a, b) || kind < 0 || kind > 5) return NONE;
    int[] next = state.plans.get(group).clone();
    int others = 0;
    for (int d = a; d <= b; d++) {
      if (next[d] != kind) others++;
      next[d] = kind;
    }
    if (others == 0) return 0;
    push();
    state.plans.set(group, next);
    return others;
  }

  int undo() {
    if (past.isEmpty()) return NONE;
    state = past.removeLast();
    return past.size();
  }

  int count(int what) {
    if (what == 0) return state.groups.size();
    if (what == 1) return state.camps.size();
    if (what == 2) return tape.length();
    if (what == 3) return past.size();
    if (what >= 10 && what <= 15) return state.loads[what - 10];
    if (what >= 20 && what <= 27) return state.settings[what - 20];
    return NONE;
  }

  /** The day, or MIN_VALUE where it is to throw. */
  int camped(int camp, boolean last) {
    return isCamp(camp) ? state.camps.get(camp)[last ? 1 : 0] : Integer.MIN_VALUE;
  }

  // ---- day by day

  private static boolean isDay(int d) {
    return d >= 0 && d <= 69;
  }

  private static boolean days(int a, int b) {
    return isDay(a) && isDay(b) && b >= a;
  }

  private boolean isGroup(int g) {
    return g >= 0 && g < state.groups.size();
  }

  private boolean isCamp(int c) {
    return c >= 0 && c < state.camps.size();
  }

  /** A GROUP's DAYS, each as {KIND, LOAD, FIT, TIRED, HURT, INJURED, ACUTE, CHRONIC, FORM}. */
  private int[][] days(int group, int[] plan, List<int[]> camps, int oneDay, int oneLoad) {
    int[] set = state.settings;
    int[][] days = new int[70][];
    int fit = state.groups.get(group)[0];
    int tired = state.groups.get(group)[1];
    for (int d = 0; d < 70; d++) {
      int load = d == oneDay ? oneLoad : state.loads[plan[d]];
      boolean camped = false;
      for (int[] c : camps) camped |= c[0] <= d && d <= c[1];
      if (camped) load = load * set[7] / 100;
      int inWeek = 0;
      for (int e = 0; e < d; e++) if (e / 7 == d / 7) inWeek += days[e][1];
      if (load > set[6] - inWeek) load = set[6] - inWeek;
      int hurt = 0;
      for (int e = 0; e < d; e++) if (days[e][5] == 1 && d - e <= set[5]) hurt = 1;
      if (hurt == 1) load = 0;
      fit = fit - fit / set[0];
      fit = fit + 10 * load;
      tired = tired - tired / set[1];
      tired = tired + 10 * load;
      int acute = load;
      int chronic = load;
      for (int e = 0; e < d; e++) {
        if (d - e <= 6) acute += days[e][1];
        if (d - e <= 27) chronic += days[e][1];
      }
      int injured = d >= 20 && acute * 400L > (long) set[4] * chronic && hurt == 0 ? 1 : 0;
      days[d] = new int[] {plan[d], load, fit, tired, hurt, injured, acute, chronic, set[2] * fit - set[3] * tired};
    }
    return days;
  }

  private int[][] days(int group) {
    return days(group, state.plans.get(group), state.camps, -1, 0);
  }

  private int[][] days(int group, int[] plan) {
    return days(group, plan, state.camps, -1, 0);
  }

  int day(int group, int day, int what) {
    if (!isGroup(group) || !isDay(day) || what < 0 || what > 7) return NONE;
    return days(group)[day][what];
  }

  int form(int group, int day) {
    return isGroup(group) && isDay(day) ? days(group)[day][8] : NO_FORM;
  }

  int week(int group, int week) {
    if (!isGroup(group) || week < 0 || week > 9) return NONE;
    int sum = 0;
    for (int d = 0; d < 70; d++) if (d / 7 == week) sum += days(group)[d][1];
    return sum;
  }

  int injured(int group, int a, int b) {
    if (!isGroup(group) || !days(a, b)) return NONE;
    int sum = 0;
    int[][] days = days(group);
    for (int d = a; d <= b; d++) sum += days[d][5];
    return sum;
  }

  // ---- what is looked for

  int peak(int group, int a, int b) {
    if (!isGroup(group) || !days(a, b)) return NONE;
    int[][] days = days(group);
    int found = b;
    for (int d = b; d >= a; d--) if (days[d][8] >= days[found][8]) found = d;
    return found;
  }

  int taper(int group, int day) {
    if (!isGroup(group) || !isDay(day)) return NONE;
    int found = -1;
    int greatest = 0;
    for (int n = Math.min(14, day); n >= 0; n--) {
      int[] plan = state.plans.get(group).clone();
      Arrays.fill(plan, day - n, day, 0);
      int form = days(group, plan)[day][8];
      if (found < 0 || form >= greatest) {
        found = n;
        greatest = form;
      }
    }
    return found;
  }

  int best(int group, int day, int n, int what) {
    if (!isGroup(group) || !isDay(day) || n < 0 || n > 4 || n > day || what < 0 || what > 1) return NO_FORM;
    int greatest = NO_FORM;
    int found = NO_FORM;
    for (int digits = 0; digits < (int) Math.pow(10, n); digits++) {
      int[] plan = state.plans.get(group).clone();
      boolean kinds = true;
      int rest = digits;
      for (int i = 1; i <= n; i++) {
        kinds &= rest % 10 < 6;
        plan[day - i] = rest % 10;
        rest /= 10;
      }
      if (!kinds) continue;
      int[][] days = days(group, plan);
      boolean injured = false;
      for (int d = day - n; d <= day; d++) injured |= days[d][5] == 1;
      if (!injured && days[day][8] > greatest) {
        greatest = days[day][8];
        found = digits;
      }
    }
    return what == 0 ? found : greatest;
  }

  int team(int day, int k) {
    if (!isDay(day) || k < 0 || k > state.groups.size()) return NONE;
    List<Integer> order = new ArrayList<>();
    for (int g = 0; g < state.groups.size(); g++) order.add(g);
    order.sort((g, h) -> form(g, day) != form(h, day) ? Integer.compare(form(h, day), form(g, day)) : Integer.compare(g, h));
    int bits = 0;
    for (int g : order.subList(0, k)) bits += 1 << g;
    return bits;
  }

  int safe(int group, int day) {
    if (!isGroup(group) || !isDay(day)) return NONE;
    int found = NONE;
    for (int v = 0; v <= 300; v++) {
      if (days(group, state.plans.get(group), state.camps, day, v)[day][5] == 0) found = v;
    }
    return found;
  }

  int row(int group, int a, int b) {
    if (!isGroup(group) || !days(a, b)) return NONE;
    int[][] days = days(group);
    int longest = 0;
    for (int from = a; from <= b; from++) {
      int to = from;
      while (to <= b && days[to][1] > 0) to++;
      longest = Math.max(longest, to - from);
    }
    return longest;
  }

  int swap(int group, int d, int a, int b) {
    if (!isGroup(group) || !isDay(d) || !isDay(a) || !isDay(b)) return NO_FORM;
    int[] plan = state.plans.get(group).clone();
    plan[a] = state.plans.get(group)[b];
    plan[b] = state.plans.get(group)[a];
    return days(group, plan)[d][8] - days(group)[d][8];
  }

  int without(int group, int day, int camp) {
    if (!isGroup(group) || !isDay(day) || !isCamp(camp)) return NO_FORM;
    List<int[]> camps = new ArrayList<>(state.camps);
    camps.remove(camp);
    return days(group, state.plans.get(group), camps, -1, 0)[day][8] - days(group)[day][8];
  }

  int ahead(int group, int other, int d) {
    if (!isGroup(group) || !isGroup(other) || !isDay(d)) return NONE;
    for (int day = d; day < 70; day++) if (form(group, day) > form(other, day)) return day;
    return NONE;
  }

  // ---- texts

  /** Reads straight off the bytes; ITEMS become lists of KINDS first. */
  static final class Reader {
    private final String text;
    private final State draft;
    private int at = 0;

    Reader(String text, State draft) {
      this.text = text;
      this.draft = draft;
    }

    /** The next TOKEN ("" at the end), where `at` is left at its first byte. */
    private String peek() {
      while (at < text.length() && (text.charAt(at) == ' ' || text.charAt(at) == '\n')) at++;
      String rest = text.substring(at);
      if (rest.isEmpty()) return "";
      String word = rest.replaceFirst("(?s)[^a-z].*", "");
      String digits = rest.replaceFirst("(?s)[^0-9].*", "");
      return !word.isEmpty() ? word : !digits.isEmpty() ? digits : rest.substring(0, 1);
    }

    private String take() {
      String token = peek();
      at += token.length();
      return token;
    }

    private void expect(String token) throws Fault {
      if (!peek().equals(token)) throw new Fault(1, at);
      take();
    }

    private boolean atInt() {
      return peek().matches("[0-9]+");
    }

    private int number(int least, int most) throws Fault {
      if (!atInt()) throw new Fault(1, at);
      String digits = peek();
      if (digits.length() > 4) throw new Fault(2, at);
      int v = Integer.parseInt(digits);
      if (v < least || v > most) throw new Fault(2, at);
      take();
      return v;
    }

    int text() throws Fault {
      int statements = 0;
      while (!peek().isEmpty()) {
        statement();
        expect(";");
        statements++;
      }
      return statements;
    }

    private void statement() throws Fault {
      int place = at;
      switch (take()) {
        case "group" -> {
          if (draft.groups.size() == 6) throw new Fault(3, place);
          draft.groups.add(new int[] {number(0, 9999), number(0, 9999)});
          draft.plans.add(new int[70]);
        }
        case "load" -> {
          int kind = NAMES.indexOf(peek());
          if (kind < 1) throw new Fault(1, at);
          take();
          draft.loads[kind] = number(0, 300);
        }
        case "camp" -> {
          if (draft.camps.size() == 4) throw new Fault(3, place);
          int a = number(0, 69);
          draft.camps.add(new int[] {a, number(a, 69)});
        }
        case "set" -> {
          int setting = number(0, 7);
          draft.settings[setting] = number(RANGES[setting][0], RANGES[setting][1]);
        }
        case "plan" -> plan();
        default -> throw new Fault(1, place);
      }
    }

    private void plan() throws Fault {
      int group = number(0, draft.groups.size() - 1);
      int day = number(0, 69);
      List<Integer> kinds = new ArrayList<>();
      while (!peek().equals(";")) kinds.addAll(item(day + kinds.size(), 0));
      for (int kind : kinds) draft.plans.get(group)[day++] = kind;
    }

    private List<Integer> item(int day, int depth) throws Fault {
      List<Integer> kinds = new ArrayList<>();
      if (peek().equals("again")) {
        if (depth == 4) throw new Fault(3, at);
        take();
        int times = number(1, 70);
        expect("(");
        do {
          kinds.addAll(item(day + kinds.size(), depth + 1));
        } while (!peek().equals(")"));
        List<Integer> all = new ArrayList<>();
        for (int i = 0; i < times; i++) all.addAll(kinds);
        if (day + all.size() > 70) throw new Fault(4, at);
        take();
        return all;
      }
      int days = atInt() ? number(1, 70) : 1;
      int kind = NAMES.indexOf(peek());
      if (kind < 0) throw new Fault(1, at);
      for (int i = 0; i < days; i++) kinds.add(kind);
      if (day + days > 70) throw new Fault(4, at);
      take();
      return kinds;
    }
  }
}

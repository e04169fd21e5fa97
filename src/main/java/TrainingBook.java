import java.util.NoSuchElementException;

/**
 * A book of training: groups with plans day by day, how fit and how tired they are,
 * who is hurt, and what is looked for in their plans. The words of ../shared/DOC.md
 * (GROUP, DAY, LOAD, FORM, TEXT, FAULT ..) are used as they stand there; "ahead of"
 * a DAY is earlier than it.
 */
public final class TrainingBook {
    public static final int NONE = -1;
    public static final int NO_FORM = -1000000000;

    private static final int FULL = -2;
    private static final int GROUPS = 6;
    private static final int MOST_AT_FIRST = 9999;
    private static final int DAYS = 70;
    private static final int LAST_DAY = 69;
    private static final int WEEK_DAYS = 7;
    private static final int WEEKS = 10;
    private static final int CAMPS = 4;
    private static final int KINDS = 6;
    private static final int REST = 0;
    private static final int MOST_LOAD = 300;
    private static final int UNDOS = 8;
    private static final int MOST_TAPER = 14;
    private static final int MOST_BEST = 4;

    private static final int SETTINGS = 8;
    private static final int SLOW = 0;
    private static final int FAST = 1;
    private static final int GAIN = 2;
    private static final int COST = 3;
    private static final int BOUND = 4;
    private static final int HEAL = 5;
    private static final int ALLOWED = 6;
    private static final int CAMP = 7;

    private static final int[] LEAST_SETTINGS = {2, 2, 1, 1, 100, 1, 0, 100};
    private static final int[] MOST_SETTINGS = {99, 99, 9, 9, 400, 14, 2100, 300};

    private static final int TAPE_BYTES = 400;
    private static final int FED_BYTES = 20;

    // TOKENS: 0 to 5 are the names of the KINDS, by their numbers.
    private static final int GROUP_WORD = 6;
    private static final int LOAD_WORD = 7;
    private static final int CAMP_WORD = 8;
    private static final int SET_WORD = 9;
    private static final int PLAN_WORD = 10;
    private static final int AGAIN_WORD = 11;
    private static final int WORDS = 12;
    private static final int INT_TOKEN = 12;
    private static final int OPEN_SIGN = 13;
    private static final int CLOSE_SIGN = 14;
    private static final int STOP_SIGN = 15;
    private static final int END_TOKEN = 16;
    private static final int OTHER_TOKEN = 17;

    private static final int MOST_DIGITS = 4;
    private static final int TOO_LONG_INT = 10000;
    private static final int MOST_TIMES = 70;
    private static final int MOST_AGAINS = 4;

    private static final int CANT_STAND = 1;
    private static final int CANT_BE = 2;
    private static final int TOO_MANY = 3;
    private static final int BEYOND = 4;

    private final Told told = new Told();
    private final Told[] past = new Told[UNDOS];
    private int undos;
    private int nextPast;
    private final Teller teller = new Teller();
    private final Course course = new Course();
    private final Course otherCourse = new Course();
    private final int[] forms = new int[GROUPS];

    public TrainingBook() {
        for (int i = 0; i < UNDOS; i++) {
            past[i] = new Told();
        }
    }

    // ---- what is told

    public int feed(int a, int b, int c, int d, int e) {
        Tape tape = teller.tape;
        if (tape.length > TAPE_BYTES - FED_BYTES) {
            return NONE;
        }
        tape.append(a);
        tape.append(b);
        tape.append(c);
        tape.append(d);
        tape.append(e);
        return tape.length;
    }

    public boolean end(int n) {
        if (n < 0 || n > teller.tape.length) {
            return false;
        }
        teller.tape.length = n;
        return true;
    }

    public int tell() {
        teller.tape.split();
        teller.tape.length = 0;
        int statements = teller.readText(told);
        if (statements != NONE) {
            remember();
            told.copyFrom(teller.draft);
        }
        return statements;
    }

    public int fault() {
        return teller.found;
    }

    public int group(int fit, int tired) {
        if (!canBeAtFirst(fit) || !canBeAtFirst(tired)) {
            return NONE;
        }
        if (told.groups >= GROUPS) {
            return FULL;
        }
        remember();
        told.addGroup(fit, tired);
        return told.groups - 1;
    }

    public boolean load(int kind, int v) {
        if (kind <= REST || kind >= KINDS || v < 0 || v > MOST_LOAD || told.loads[kind] == v) {
            return false;
        }
        told.loads[kind] = v;
        return true;
    }

    public boolean set(int setting, int v) {
        if (!canBeSetting(setting, v) || told.settings[setting] == v) {
            return false;
        }
        told.settings[setting] = v;
        return true;
    }

    public int camp(int a, int b) {
        if (!areDays(a, b)) {
            return NONE;
        }
        if (told.camps >= CAMPS) {
            return FULL;
        }
        remember();
        told.addCamp(a, b);
        return told.camps - 1;
    }

    public int strike(int camp) {
        if (!told.hasCamp(camp)) {
            return NONE;
        }
        remember();
        told.dropCamp(camp);
        return told.camps;
    }

    public int plan(int group, int a, int b, int kind) {
        if (!told.hasGroup(group) || !areDays(a, b) || kind < 0 || kind >= KINDS) {
            return NONE;
        }
        int others = told.countOthers(group, a, b, kind);
        if (others > 0) {
            remember();
            told.fillKinds(group, a, b, kind);
        }
        return others;
    }

    public int undo() {
        if (undos == 0) {
            return NONE;
        }
        undos--;
        nextPast = (nextPast + UNDOS - 1) % UNDOS;
        told.copyFrom(past[nextPast]);
        return undos;
    }

    public int count(int what) {
        switch (what) {
            case 0:
                return told.groups;
            case 1:
                return told.camps;
            case 2:
                return teller.tape.length;
            case 3:
                return undos;
            default:
                return countNumber(what);
        }
    }

    public int camped(int camp, boolean last) throws NoSuchElementException {
        if (!told.hasCamp(camp)) {
            throw new NoSuchElementException("no such camp");
        }
        return last ? told.campLasts[camp] : told.campFirsts[camp];
    }

    // ---- day by day

    public int day(int group, int day, int what) {
        if (!told.hasGroup(group) || !isDay(day)) {
            return NONE;
        }
        course.follow(told, group, NONE, day);
        switch (what) {
            case 0:
                return course.kinds[day];
            case 1:
                return course.loads[day];
            case 2:
                return course.fits[day + 1];
            case 3:
                return course.tireds[day + 1];
            case 4:
                return course.isHurt(day) ? 1 : 0;
            case 5:
                return course.hurting[day] ? 1 : 0;
            case 6:
                return course.acute(day);
            case 7:
                return course.chronic(day);
            default:
                return NONE;
        }
    }

    public int form(int group, int day) {
        if (!told.hasGroup(group) || !isDay(day)) {
            return NO_FORM;
        }
        return formAsTold(group, day);
    }

    public int week(int group, int week) {
        if (!told.hasGroup(group) || week < 0 || week >= WEEKS) {
            return NONE;
        }
        int first = week * WEEK_DAYS;
        course.follow(told, group, NONE, first + WEEK_DAYS - 1);
        return course.sums[first + WEEK_DAYS] - course.sums[first];
    }

    public int injured(int group, int a, int b) {
        if (!told.hasGroup(group) || !areDays(a, b)) {
            return NONE;
        }
        course.follow(told, group, NONE, b);
        int times = 0;
        for (int day = a; day <= b; day++) {
            if (course.hurting[day]) {
                times++;
            }
        }
        return times;
    }

    // ---- what is looked for

    public int peak(int group, int a, int b) {
        if (!told.hasGroup(group) || !areDays(a, b)) {
            return NONE;
        }
        course.follow(told, group, NONE, b);
        int found = a;
        for (int day = a + 1; day <= b; day++) {
            if (course.formOf(day) > course.formOf(found)) {
                found = day;
            }
        }
        return found;
    }

    public int taper(int group, int day) {
        if (!told.hasGroup(group) || !isDay(day)) {
            return NONE;
        }
        course.follow(told, group, NONE, day);
        int found = 0;
        int greatest = course.formOf(day);
        int most = Math.min(MOST_TAPER, day);
        for (int n = 1; n <= most; n++) {
            course.kinds[day - n] = REST;
            course.live(day - n, day);
            if (course.formOf(day) > greatest) {
                greatest = course.formOf(day);
                found = n;
            }
        }
        return found;
    }

    public int best(int group, int day, int n, int what) {
        if (!told.hasGroup(group) || !isDay(day)) {
            return NO_FORM;
        }
        if (n < 0 || n > MOST_BEST || n > day || what < 0 || what > 1) {
            return NO_FORM;
        }
        course.follow(told, group, NONE, day - n - 1);
        course.bestForm = NO_FORM;
        course.bestRow = NO_FORM;
        course.tryRows(day, n, 0);
        return what == 0 ? course.bestRow : course.bestForm;
    }

    public int team(int day, int k) {
        if (!isDay(day) || k < 0 || k > told.groups) {
            return NONE;
        }
        for (int group = 0; group < told.groups; group++) {
            forms[group] = formAsTold(group, day);
        }
        int chosen = 0;
        for (int i = 0; i < k; i++) {
            chosen |= 1 << greatestBeside(chosen);
        }
        return chosen;
    }

    public int safe(int group, int day) {
        if (!told.hasGroup(group) || !isDay(day)) {
            return NONE;
        }
        course.follow(told, group, NONE, day - 1);
        for (int load = MOST_LOAD; load >= 0; load--) {
            course.liveDay(day, load);
            if (!course.hurting[day]) {
                return load;
            }
        }
        return NONE;
    }

    public int row(int group, int a, int b) {
        if (!told.hasGroup(group) || !areDays(a, b)) {
            return NONE;
        }
        course.follow(told, group, NONE, b);
        int longest = 0;
        int length = 0;
        for (int day = a; day <= b; day++) {
            length = course.loads[day] > 0 ? length + 1 : 0;
            longest = Math.max(longest, length);
        }
        return longest;
    }

    public int swap(int group, int d, int a, int b) {
        if (!told.hasGroup(group) || !isDay(d) || !isDay(a) || !isDay(b)) {
            return NO_FORM;
        }
        int asTold = formAsTold(group, d);
        int kind = course.kinds[a];
        course.kinds[a] = course.kinds[b];
        course.kinds[b] = kind;
        course.live(0, d);
        return course.formOf(d) - asTold;
    }

    public int without(int group, int day, int camp) {
        if (!told.hasGroup(group) || !isDay(day) || !told.hasCamp(camp)) {
            return NO_FORM;
        }
        int asTold = formAsTold(group, day);
        course.follow(told, group, camp, day);
        return course.formOf(day) - asTold;
    }

    public int ahead(int group, int other, int d) {
        if (!told.hasGroup(group) || !told.hasGroup(other) || !isDay(d)) {
            return NONE;
        }
        course.follow(told, group, NONE, LAST_DAY);
        otherCourse.follow(told, other, NONE, LAST_DAY);
        for (int day = d; day < DAYS; day++) {
            if (course.formOf(day) > otherCourse.formOf(day)) {
                return day;
            }
        }
        return NONE;
    }

    // ---- what the calls share

    private static boolean isDay(int day) {
        return day >= 0 && day < DAYS;
    }

    private static boolean areDays(int a, int b) {
        return isDay(a) && isDay(b) && a <= b;
    }

    private static boolean canBeAtFirst(int v) {
        return v >= 0 && v <= MOST_AT_FIRST;
    }

    private static boolean canBeSetting(int setting, int v) {
        return setting >= 0 && setting < SETTINGS
            && v >= LEAST_SETTINGS[setting] && v <= MOST_SETTINGS[setting];
    }

    private int countNumber(int what) {
        if (what >= 10 && what < 10 + KINDS) {
            return told.loads[what - 10];
        }
        if (what >= 20 && what < 20 + SETTINGS) {
            return told.settings[what - 20];
        }
        return NONE;
    }

    // The rows of the past go round, so that a 9th takes the place of the eldest.
    private void remember() {
        past[nextPast].copyFrom(told);
        nextPast = (nextPast + 1) % UNDOS;
        undos = Math.min(undos + 1, UNDOS);
    }

    private int formAsTold(int group, int day) {
        course.follow(told, group, NONE, day);
        return course.formOf(day);
    }

    private int greatestBeside(int chosen) {
        int found = 0;
        int greatest = NO_FORM;
        for (int group = 0; group < told.groups; group++) {
            if ((chosen >> group & 1) == 0 && forms[group] > greatest) {
                greatest = forms[group];
                found = group;
            }
        }
        return found;
    }

    /** All that undo() brings back. */
    private static final class Told {
        private int groups;
        private final int[] firstFits = new int[GROUPS];
        private final int[] firstTireds = new int[GROUPS];
        private final int[] kinds = new int[GROUPS * DAYS];
        private int camps;
        private final int[] campFirsts = new int[CAMPS];
        private final int[] campLasts = new int[CAMPS];
        private final int[] loads = {0, 30, 60, 90, 120, 200};
        private final int[] settings = {42, 7, 1, 2, 150, 5, 2100, 150};

        private void copyFrom(Told other) {
            groups = other.groups;
            System.arraycopy(other.firstFits, 0, firstFits, 0, GROUPS);
            System.arraycopy(other.firstTireds, 0, firstTireds, 0, GROUPS);
            System.arraycopy(other.kinds, 0, kinds, 0, GROUPS * DAYS);
            camps = other.camps;
            System.arraycopy(other.campFirsts, 0, campFirsts, 0, CAMPS);
            System.arraycopy(other.campLasts, 0, campLasts, 0, CAMPS);
            System.arraycopy(other.loads, 0, loads, 0, KINDS);
            System.arraycopy(other.settings, 0, settings, 0, SETTINGS);
        }

        private boolean hasGroup(int group) {
            return group >= 0 && group < groups;
        }

        private boolean hasCamp(int camp) {
            return camp >= 0 && camp < camps;
        }

        // Its row of KINDS is at rest yet: copyFrom takes the rows of GROUPS to come, too.
        private void addGroup(int fit, int tired) {
            if (groups < GROUPS) {
                firstFits[groups] = fit;
                firstTireds[groups] = tired;
                groups++;
            }
        }

        private void addCamp(int a, int b) {
            if (camps < CAMPS) {
                campFirsts[camps] = a;
                campLasts[camps] = b;
                camps++;
            }
        }

        private void dropCamp(int camp) {
            for (int i = camp; i < camps - 1; i++) {
                campFirsts[i] = campFirsts[i + 1];
                campLasts[i] = campLasts[i + 1];
            }
            camps--;
        }

        private int countOthers(int group, int a, int b, int kind) {
            int others = 0;
            for (int day = a; day <= b; day++) {
                if (kinds[group * DAYS + day] != kind) {
                    others++;
                }
            }
            return others;
        }

        private void fillKinds(int group, int a, int b, int kind) {
            for (int day = a; day <= b; day++) {
                kinds[group * DAYS + day] = kind;
            }
        }

        private void repeatKinds(int group, int from, int length, int end) {
            for (int day = from + length; day < end; day++) {
                kinds[group * DAYS + day] = kinds[group * DAYS + day - length];
            }
        }
    }

    /**
     * One GROUP's DAYS as they come out. What stands at a DAY's place in fits, tireds,
     * sums and healed is as that DAY begins, so that one may live on from any DAY.
     */
    private static final class Course {
        private static final int ACUTE_DAYS = 7;
        private static final int CHRONIC_DAYS = 28;
        private static final int FIRST_INJURY = 20;

        private final int[] settings = new int[SETTINGS];
        private final int[] kindLoads = new int[KINDS];
        private final int[] kinds = new int[DAYS];
        private final boolean[] inCamp = new boolean[DAYS];
        private final int[] loads = new int[DAYS];
        private final int[] fits = new int[DAYS + 1];
        private final int[] tireds = new int[DAYS + 1];
        private final int[] sums = new int[DAYS + 1];
        private final int[] healed = new int[DAYS + 1];
        private final boolean[] hurting = new boolean[DAYS];
        private int bestForm;
        private int bestRow;

        /** Lives DAYS 0 to last as they are told, a CAMP (or NONE) left out. */
        private void follow(Told told, int group, int leftOut, int last) {
            System.arraycopy(told.settings, 0, settings, 0, SETTINGS);
            System.arraycopy(told.loads, 0, kindLoads, 0, KINDS);
            System.arraycopy(told.kinds, group * DAYS, kinds, 0, DAYS);
            for (int day = 0; day < DAYS; day++) {
                inCamp[day] = false;
            }
            for (int camp = 0; camp < told.camps; camp++) {
                if (camp != leftOut) {
                    pitch(told.campFirsts[camp], told.campLasts[camp]);
                }
            }
            fits[0] = told.firstFits[group];
            tireds[0] = told.firstTireds[group];
            live(0, last);
        }

        private void pitch(int a, int b) {
            for (int day = a; day <= b; day++) {
                inCamp[day] = true;
            }
        }

        private void live(int from, int to) {
            for (int day = from; day <= to; day++) {
                liveDay(day, kindLoads[kinds[day]]);
            }
        }

        private void liveDay(int day, int planned) {
            int load = isHurt(day) ? 0 : held(day, planned);
            loads[day] = load;
            sums[day + 1] = sums[day] + load;
            fits[day + 1] = decayed(fits[day], settings[SLOW]) + 10 * load;
            tireds[day + 1] = decayed(tireds[day], settings[FAST]) + 10 * load;
            hurting[day] = !isHurt(day) && isTooMuch(day);
            healed[day + 1] = hurting[day] ? day + 1 + settings[HEAL] : healed[day];
        }

        private int held(int day, int planned) {
            int weighed = inCamp[day] ? planned * settings[CAMP] / 100 : planned;
            int inWeek = sums[day] - sums[day - day % WEEK_DAYS];
            return Math.min(weighed, settings[ALLOWED] - inWeek);
        }

        private static int decayed(int v, int by) {
            return by == 0 ? v : v - v / by;
        }

        private boolean isHurt(int day) {
            return day < healed[day];
        }

        private boolean isTooMuch(int day) {
            return day >= FIRST_INJURY && acute(day) * 400 > settings[BOUND] * chronic(day);
        }

        private int acute(int day) {
            return sums[day + 1] - sums[Math.max(0, day + 1 - ACUTE_DAYS)];
        }

        private int chronic(int day) {
            return sums[day + 1] - sums[Math.max(0, day + 1 - CHRONIC_DAYS)];
        }

        private int formOf(int day) {
            return settings[GAIN] * fits[day + 1] - settings[COST] * tireds[day + 1];
        }

        /**
         * Tries all KINDS of the n DAYS ahead of a DAY, behind a row that stands. They
         * come in the order of their rows, so the first of several equal ones is kept.
         */
        private void tryRows(int day, int n, int row) {
            int tried = day - n;
            if (n <= 0) {
                live(day, day);
                keepIfBetter(day, row);
                return;
            }
            for (int kind = 0; kind < KINDS; kind++) {
                kinds[tried] = kind;
                live(tried, tried);
                if (!hurting[tried]) {
                    tryRows(day, n - 1, row * 10 + kind);
                }
            }
        }

        private void keepIfBetter(int day, int row) {
            if (!hurting[day] && formOf(day) > bestForm) {
                bestForm = formOf(day);
                bestRow = row;
            }
        }
    }

    /** The bytes that were fed, and the TOKENS in them. */
    private static final class Tape {
        private final byte[] bytes = new byte[TAPE_BYTES];
        private int length;
        private final int[] tokens = new int[TAPE_BYTES + 1];
        private final int[] places = new int[TAPE_BYTES + 1];
        private final int[] numbers = new int[TAPE_BYTES + 1];
        private int size;

        private void append(int four) {
            for (int shift = 24; shift >= 0 && length < TAPE_BYTES; shift -= 8) {
                bytes[length] = (byte) (four >> shift);
                length++;
            }
        }

        /** Finds the TOKENS; behind them stands END_TOKEN. */
        private void split() {
            size = 0;
            int at = 0;
            for (int n = 0; n < TAPE_BYTES && at < length; n++) {
                int end = at + 1;
                if (isLetter(bytes[at])) {
                    end = endOfWord(end);
                    note(wordAt(at, end), at, 0);
                } else if (isDigit(bytes[at])) {
                    end = endOfInt(end);
                    note(INT_TOKEN, at, numberAt(at, end));
                } else if (!isBlank(bytes[at])) {
                    note(signOf(bytes[at]), at, 0);
                }
                at = end;
            }
            note(END_TOKEN, length, 0);
        }

        private void note(int token, int place, int number) {
            if (size <= TAPE_BYTES) {
                tokens[size] = token;
                places[size] = place;
                numbers[size] = number;
                size++;
            }
        }

        private int endOfWord(int from) {
            int end = from;
            while (end < length && isLetter(bytes[end])) {
                end++;
            }
            return end;
        }

        private int endOfInt(int from) {
            int end = from;
            while (end < length && isDigit(bytes[end])) {
                end++;
            }
            return end;
        }

        private int wordAt(int from, int end) {
            for (int word = 0; word < WORDS; word++) {
                if (isTextAt(textOf(word), from, end)) {
                    return word;
                }
            }
            return OTHER_TOKEN;
        }

        private boolean isTextAt(String text, int from, int end) {
            if (text.length() != end - from) {
                return false;
            }
            for (int i = 0; i < text.length(); i++) {
                if (text.charAt(i) != bytes[from + i]) {
                    return false;
                }
            }
            return true;
        }

        private int numberAt(int from, int end) {
            if (end - from > MOST_DIGITS) {
                return TOO_LONG_INT;
            }
            int number = 0;
            for (int i = from; i < end; i++) {
                number = number * 10 + bytes[i] - '0';
            }
            return number;
        }

        private static boolean isLetter(int b) {
            return b >= 'a' && b <= 'z';
        }

        private static boolean isDigit(int b) {
            return b >= '0' && b <= '9';
        }

        private static boolean isBlank(int b) {
            return b == 32 || b == 10;
        }

        private static int signOf(int b) {
            switch (b) {
                case '(':
                    return OPEN_SIGN;
                case ')':
                    return CLOSE_SIGN;
                case ';':
                    return STOP_SIGN;
                default:
                    return OTHER_TOKEN;
            }
        }

        private static String textOf(int word) {
            switch (word) {
                case 0:
                    return "rest";
                case 1:
                    return "easy";
                case 2:
                    return "steady";
                case 3:
                    return "hard";
                case 4:
                    return "long";
                case 5:
                    return "race";
                case GROUP_WORD:
                    return "group";
                case LOAD_WORD:
                    return "load";
                case CAMP_WORD:
                    return "camp";
                case SET_WORD:
                    return "set";
                case PLAN_WORD:
                    return "plan";
                default:
                    return "again";
            }
        }
    }

    /**
     * Reads a TEXT into a draft of what is told, up to its first FAULT. What reads a
     * part answers false (a number: NONE) behind a FAULT, and all reading ends there.
     */
    private static final class Teller {
        private final Tape tape = new Tape();
        private final Told draft = new Told();
        private int at;
        private int found;
        private int planned;
        private int nextDay;
        private int agains;
        private final int[] againDays = new int[MOST_AGAINS];
        private final int[] againTimes = new int[MOST_AGAINS];

        /** How many STATEMENTS there are; NONE: a FAULT. */
        private int readText(Told told) {
            draft.copyFrom(told);
            at = 0;
            found = 0;
            int statements = 0;
            while (statements <= TAPE_BYTES && token() != END_TOKEN) {
                if (!readStatement() || !take(STOP_SIGN)) {
                    return NONE;
                }
                statements++;
            }
            return statements;
        }

        private boolean readStatement() {
            switch (token()) {
                case GROUP_WORD:
                    return readGroup();
                case LOAD_WORD:
                    return readLoad();
                case CAMP_WORD:
                    return readCamp();
                case SET_WORD:
                    return readSetting();
                case PLAN_WORD:
                    return readPlan();
                default:
                    return fail(CANT_STAND);
            }
        }

        private boolean readGroup() {
            if (draft.groups >= GROUPS) {
                return fail(TOO_MANY);
            }
            step();
            int fit = takeInt(0, MOST_AT_FIRST);
            int tired = fit == NONE ? NONE : takeInt(0, MOST_AT_FIRST);
            if (tired == NONE) {
                return false;
            }
            draft.addGroup(fit, tired);
            return true;
        }

        private boolean readLoad() {
            step();
            int kind = token();
            if (kind <= REST || kind >= KINDS) {
                return fail(CANT_STAND);
            }
            step();
            int load = takeInt(0, MOST_LOAD);
            if (load == NONE) {
                return false;
            }
            draft.loads[kind] = load;
            return true;
        }

        private boolean readCamp() {
            if (draft.camps >= CAMPS) {
                return fail(TOO_MANY);
            }
            step();
            int first = takeInt(0, LAST_DAY);
            int last = first == NONE ? NONE : takeInt(first, LAST_DAY);
            if (last == NONE) {
                return false;
            }
            draft.addCamp(first, last);
            return true;
        }

        private boolean readSetting() {
            step();
            int setting = takeInt(0, SETTINGS - 1);
            if (setting == NONE) {
                return false;
            }
            int v = takeInt(LEAST_SETTINGS[setting], MOST_SETTINGS[setting]);
            if (v == NONE) {
                return false;
            }
            draft.settings[setting] = v;
            return true;
        }

        private boolean readPlan() {
            step();
            planned = takeInt(0, draft.groups - 1);
            nextDay = planned == NONE ? NONE : takeInt(0, LAST_DAY);
            if (nextDay == NONE) {
                return false;
            }
            agains = 0;
            for (int n = 0; n <= TAPE_BYTES && (agains > 0 || token() != STOP_SIGN); n++) {
                boolean read = token() == AGAIN_WORD ? openAgain()
                    : token() == CLOSE_SIGN ? closeAgain() : readDays();
                if (!read) {
                    return false;
                }
            }
            return true;
        }

        private boolean openAgain() {
            if (agains >= MOST_AGAINS) {
                return fail(TOO_MANY);
            }
            step();
            int times = takeInt(1, MOST_TIMES);
            if (times == NONE || !take(OPEN_SIGN)) {
                return false;
            }
            againDays[agains] = nextDay;
            againTimes[agains] = times;
            agains++;
            return true;
        }

        // Every ITEM has a DAY at least: an again without one has no ITEM yet.
        private boolean closeAgain() {
            if (agains <= 0 || nextDay == againDays[agains - 1]) {
                return fail(CANT_STAND);
            }
            int from = againDays[agains - 1];
            int length = nextDay - from;
            int end = from + length * againTimes[agains - 1];
            if (end > DAYS) {
                return fail(BEYOND);
            }
            draft.repeatKinds(planned, from, length, end);
            nextDay = end;
            agains--;
            step();
            return true;
        }

        private boolean readDays() {
            int days = token() == INT_TOKEN ? takeInt(1, MOST_TIMES) : 1;
            if (days == NONE) {
                return false;
            }
            int kind = token();
            if (kind >= KINDS) {
                return fail(CANT_STAND);
            }
            if (nextDay + days > DAYS) {
                return fail(BEYOND);
            }
            draft.fillKinds(planned, nextDay, nextDay + days - 1, kind);
            nextDay += days;
            step();
            return true;
        }

        private int token() {
            return tape.tokens[at];
        }

        // END_TOKEN is stepped over by none, so at stays among the TOKENS.
        private void step() {
            if (at < tape.size - 1) {
                at++;
            }
        }

        private boolean take(int wanted) {
            if (token() != wanted) {
                return fail(CANT_STAND);
            }
            step();
            return true;
        }

        private int takeInt(int least, int most) {
            if (token() != INT_TOKEN) {
                fail(CANT_STAND);
                return NONE;
            }
            int number = tape.numbers[at];
            if (number < least || number > most) {
                fail(CANT_BE);
                return NONE;
            }
            step();
            return number;
        }

        private boolean fail(int kind) {
            found = kind + 8 * tape.places[at];
            return false;
        }
    }
}

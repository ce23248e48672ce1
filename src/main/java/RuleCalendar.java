import java.util.Arrays;

/** Calendars compiled from rules, and the clock with its lost and doubled hour; DOC.md numbers the promises. */
public final class RuleCalendar {
    public static final int NONE = -1;

    private static final int CALENDARS = 3;
    private static final int FIRST_YEAR = 2000;
    private static final int YEARS = 4;
    private static final int DAYS = 1461;
    private static final int CELLS = 48;
    private static final int TIMES = DAYS * CELLS;
    private static final int MOST_TARIFF = 9;
    private static final int MOST_CHARACTERS = 100;
    private static final int MOST_RULES = 12;
    // The rule's own matcher counts as the first: three brackets may stand open.
    private static final int DEEPEST_MATCHERS = 4;
    private static final int FIRST_SHIFTED = 4;
    private static final int BEHIND_SHIFTED = 6;
    private static final long ALL_CELLS = (1L << CELLS) - 1;
    private static final long SHIFTED_CELLS = (1L << BEHIND_SHIFTED) - (1L << FIRST_SHIFTED);

    private final char[] text = new char[MOST_CHARACTERS];
    private int length;
    private final Shifter shifter = new Shifter();
    private final Almanac almanac = new Almanac();
    private final RuleReader reader = new RuleReader(almanac);
    private final Plan[] plans = new Plan[CALENDARS];
    // Rules are laid here first, so that a fault leaves the calendar as it was.
    private Plan spare = new Plan();

    public RuleCalendar() {
        for (int calendar = 0; calendar < CALENDARS; calendar++) {
            plans[calendar] = new Plan();
        }
    }

    public boolean type(char c) {
        if (c < 32 || c > 126 || length >= MOST_CHARACTERS) {
            return false;
        }
        text[length] = c;
        length++;
        return true;
    }

    public int wipe() {
        int had = length;
        length = 0;
        return had;
    }

    public int compile(int calendar) throws IndexOutOfBoundsException {
        needCalendar(calendar);
        boolean faultless = reader.read(text, length, spare);
        length = 0;
        if (!faultless) {
            return -1 - reader.place;
        }
        Plan compiled = spare;
        spare = plans[calendar];
        plans[calendar] = compiled;
        return compiled.rules;
    }

    public void shifts(boolean on) {
        shifter.on = on;
    }

    public int at(int calendar, int day, int cell) throws IndexOutOfBoundsException, IllegalStateException {
        Plan plan = planWithCell(calendar, day, cell);
        return shifter.isLost(day, cell) ? NONE : plan.tariffs.get(day, cell);
    }

    public int which(int calendar, int day, int cell) throws IndexOutOfBoundsException, IllegalStateException {
        Plan plan = planWithCell(calendar, day, cell);
        return shifter.isLost(day, cell) ? NONE : plan.deciders.get(day, cell);
    }

    public int next(int calendar, int day, int cell) throws IndexOutOfBoundsException, IllegalStateException {
        Plan plan = planWithCell(calendar, day, cell);
        if (shifter.isLost(day, cell)) {
            return NONE;
        }
        int tariff = plan.tariffs.get(day, cell);
        long others = shifter.cellsBehind(day, cell) & ~plan.tariffs.cellsWith(day, tariff);
        int found = day;
        while (others == 0 && found < DAYS - 1) {
            found++;
            others = shifter.cellsOf(found) & ~plan.tariffs.cellsWith(found, tariff);
        }
        if (others == 0) {
            return NONE;
        }
        int other = lowestCell(others);
        // A lower cell of the same day can only be behind this one as the second of two.
        boolean second = found == day && other < cell;
        return shifter.timeOf(found, other, second) - shifter.timeOf(day, cell, false);
    }

    public int total(int calendar, int from, int to, int tariff)
            throws IndexOutOfBoundsException, IllegalStateException {
        needCalendar(calendar);
        if (from < 0 || to < from || to > DAYS) {
            throw new IndexOutOfBoundsException("no such days");
        }
        Plan plan = compiledPlan(calendar);
        if (tariff < 0 || tariff > MOST_TARIFF) {
            return 0;
        }
        int times = 0;
        for (int day = from; day < to; day++) {
            times += shifter.timesOf(day, plan.tariffs.cellsWith(day, tariff));
        }
        return times;
    }

    public int dayOf(int year, int month, int dayOfMonth) {
        return Almanac.dayNumber(year, month, dayOfMonth);
    }

    public int dateOf(int day, int what) {
        if (day < 0 || day >= DAYS) {
            return NONE;
        }
        switch (what) {
            case 0:
                return almanac.date(day);
            case 1:
                return Almanac.weekday(day);
            case 2:
                return Almanac.week(day);
            default:
                return NONE;
        }
    }

    public int feast(int year) {
        return Almanac.feastDate(year);
    }

    public int elapsed(int day, int cell, boolean second) throws IndexOutOfBoundsException {
        needCell(day, cell);
        return shifter.isLost(day, cell) ? NONE : shifter.timeOf(day, cell, second);
    }

    public int clock(int time) {
        return time < 0 || time >= TIMES ? NONE : shifter.tell(time);
    }

    public int compare(int one, int other) throws IndexOutOfBoundsException, IllegalStateException {
        needCalendar(one);
        needCalendar(other);
        CellNumbers ones = compiledPlan(one).tariffs;
        CellNumbers others = compiledPlan(other).tariffs;
        for (int day = 0; day < DAYS; day++) {
            long different = ones.cellsUnlike(others, day) & shifter.cellsOf(day);
            if (different != 0) {
                return 100 * day + lowestCell(different);
            }
        }
        return NONE;
    }

    public boolean inside(int one, int other) throws IndexOutOfBoundsException, IllegalStateException {
        needCalendar(one);
        needCalendar(other);
        CellNumbers ones = compiledPlan(one).tariffs;
        CellNumbers others = compiledPlan(other).tariffs;
        for (int day = 0; day < DAYS; day++) {
            long alone = ones.cellsAboveZero(day) & ~others.cellsAboveZero(day);
            if ((alone & shifter.cellsOf(day)) != 0) {
                return false;
            }
        }
        return true;
    }

    public int dead(int calendar, int i) throws IndexOutOfBoundsException, IllegalStateException {
        needCalendar(calendar);
        Plan plan = compiledPlan(calendar);
        int seen = 0;
        for (int rule = 1; rule <= plan.rules; rule++) {
            if (!decidesSome(plan, rule)) {
                if (seen == i) {
                    return rule;
                }
                seen++;
            }
        }
        return NONE;
    }

    public int run(int calendar, int day, int i, int what) throws IndexOutOfBoundsException, IllegalStateException {
        Plan plan = planWithCell(calendar, day, 0);
        int first = firstOfRun(plan, day, i);
        if (first == NONE) {
            return NONE;
        }
        switch (what) {
            case 0:
                return first;
            case 1:
                return lastOfRun(plan, day, first);
            case 2:
                return plan.tariffs.get(day, first);
            default:
                return NONE;
        }
    }

    private int firstOfRun(Plan plan, int day, int i) {
        int begun = 0;
        int tariff = 0;
        for (int cell = 0; cell < CELLS; cell++) {
            if (shifter.isLost(day, cell)) {
                continue;
            }
            int before = tariff;
            tariff = plan.tariffs.get(day, cell);
            if (tariff > 0 && tariff != before) {
                if (begun == i) {
                    return cell;
                }
                begun++;
            }
        }
        return NONE;
    }

    private int lastOfRun(Plan plan, int day, int first) {
        int tariff = plan.tariffs.get(day, first);
        int last = first;
        for (int cell = first + 1; cell < CELLS; cell++) {
            if (shifter.isLost(day, cell)) {
                continue;
            }
            if (plan.tariffs.get(day, cell) != tariff) {
                break;
            }
            last = cell;
        }
        return last;
    }

    private boolean decidesSome(Plan plan, int rule) {
        for (int day = 0; day < DAYS; day++) {
            if ((plan.deciders.cellsWith(day, rule) & shifter.cellsOf(day)) != 0) {
                return true;
            }
        }
        return false;
    }

    private void needCalendar(int calendar) {
        if (calendar < 0 || calendar >= CALENDARS) {
            throw new IndexOutOfBoundsException("no such calendar");
        }
    }

    private void needCell(int day, int cell) {
        if (day < 0 || day >= DAYS || cell < 0 || cell >= CELLS) {
            throw new IndexOutOfBoundsException("no such day or cell");
        }
    }

    private Plan planWithCell(int calendar, int day, int cell) {
        needCalendar(calendar);
        needCell(day, cell);
        return compiledPlan(calendar);
    }

    private Plan compiledPlan(int calendar) {
        if (plans[calendar].rules == 0) {
            throw new IllegalStateException("the calendar is not compiled");
        }
        return plans[calendar];
    }

    private static long cellsBelow(int cell) {
        return (1L << cell) - 1;
    }

    private static int lowestCell(long cells) {
        return Long.bitCount((cells & -cells) - 1);
    }

    private static int yearIndex(int day) {
        // 2000 has one day more than the other years.
        return day < 366 ? 0 : (day - 1) / 365;
    }

    /** Dates, weeks and feasts of the days. */
    private static final class Almanac {
        private static final int LEAP_YEAR = FIRST_YEAR;
        private static final int[] LONGEST = {0, 31, 29, 31, 30, 31, 30, 31, 31, 30, 31, 30, 31};

        private final int[] dates = new int[DAYS];
        private final int[] feastDays = new int[YEARS];

        Almanac() {
            int day = 0;
            for (int year = FIRST_YEAR; year < FIRST_YEAR + YEARS; year++) {
                for (int month = 1; month <= 12; month++) {
                    for (int ofMonth = 1; ofMonth <= monthLength(year, month) && day < DAYS; ofMonth++) {
                        dates[day] = 10000 * year + 100 * month + ofMonth;
                        day++;
                    }
                }
                int feast = feastDate(year);
                feastDays[year - FIRST_YEAR] = dayNumber(year, feast / 100, feast % 100);
            }
        }

        int date(int day) {
            return dates[day];
        }

        int monthAndDay(int day) {
            return dates[day] % 10000;
        }

        int feastDay(int day) {
            return feastDays[yearIndex(day)];
        }

        /** Whether a day is the rank-th such weekday of its month, or with rank 0 the last. */
        boolean hasRank(int day, int rank) {
            int ofMonth = dates[day] % 100;
            if (rank > 0) {
                return (ofMonth - 1) / 7 + 1 == rank;
            }
            return ofMonth + 7 > monthLength(dates[day] / 10000, dates[day] / 100 % 100);
        }

        static int monthLength(int year, int month) {
            if (month < 1 || month > 12) {
                return 0;
            }
            return month == 2 && year != LEAP_YEAR ? 28 : LONGEST[month];
        }

        static int weekday(int day) {
            return (day + 5) % 7 + 1;
        }

        /** The first day of a year, also of the years just before and behind those of the days. */
        static int firstDay(int year) {
            return 365 * (year - FIRST_YEAR) + (year > LEAP_YEAR ? 1 : 0);
        }

        static int dayNumber(int year, int month, int ofMonth) {
            if (year < FIRST_YEAR || year >= FIRST_YEAR + YEARS
                    || ofMonth < 1 || ofMonth > monthLength(year, month)) {
                return NONE;
            }
            int day = firstDay(year) + ofMonth - 1;
            for (int before = 1; before < month; before++) {
                day += monthLength(year, before);
            }
            return day;
        }

        static int lastSunday(int year, int month) {
            int last = dayNumber(year, month, monthLength(year, month));
            return last - weekday(last) % 7;
        }

        /** 100 * the year of a day's week + its number. */
        static int week(int day) {
            int thursday = day - weekday(day) + 4;
            int year = FIRST_YEAR + yearIndex(thursday);
            if (thursday < 0) {
                year = FIRST_YEAR - 1;
            }
            return 100 * year + (thursday - firstDay(year)) / 7 + 1;
        }

        static int feastDate(int y) {
            if (y < 1900 || y > 2299) {
                return NONE;
            }
            int a = y % 19;
            int b = y / 100;
            int c = y % 100;
            int d = b / 4;
            int e = b % 4;
            int f = (b + 8) / 25;
            int g = (b - f + 1) / 3;
            int h = (19 * a + b - d - g + 15) % 30;
            int i = c / 4;
            int k = c % 4;
            int l = (32 + 2 * e + 2 * i - h - k) % 7;
            int m = (a + 11 * h + 22 * l) / 451;
            int s = h + l - 7 * m + 114;
            return 100 * (s / 31) + s % 31 + 1;
        }
    }

    /** Which cells are lost or there twice, and the times that this makes. */
    private static final class Shifter {
        private final int[] losingDays = new int[YEARS];
        private final int[] doublingDays = new int[YEARS];
        private boolean on;

        Shifter() {
            for (int year = 0; year < YEARS; year++) {
                losingDays[year] = Almanac.lastSunday(FIRST_YEAR + year, 3);
                doublingDays[year] = Almanac.lastSunday(FIRST_YEAR + year, 10);
            }
        }

        boolean loses(int day) {
            return on && losingDays[yearIndex(day)] == day;
        }

        boolean doubles(int day) {
            return on && doublingDays[yearIndex(day)] == day;
        }

        boolean isShifted(int cell) {
            return cell >= FIRST_SHIFTED && cell < BEHIND_SHIFTED;
        }

        boolean isLost(int day, int cell) {
            return isShifted(cell) && loses(day);
        }

        long cellsOf(int day) {
            return loses(day) ? ALL_CELLS & ~SHIFTED_CELLS : ALL_CELLS;
        }

        /** The cells of a day that come, or come again, behind the first one of a cell, but for itself. */
        long cellsBehind(int day, int cell) {
            long behind = cellsOf(day) & ~cellsBelow(cell + 1);
            return isShifted(cell) && doubles(day) ? behind | SHIFTED_CELLS & ~(1L << cell) : behind;
        }

        int timesOf(int day, long cells) {
            int once = Long.bitCount(cells & cellsOf(day));
            return doubles(day) ? once + Long.bitCount(cells & SHIFTED_CELLS) : once;
        }

        int startOf(int day) {
            int year = yearIndex(day);
            boolean summer = on && day > losingDays[year] && day <= doublingDays[year];
            return CELLS * day - (summer ? 2 : 0);
        }

        int timeOf(int day, int cell, boolean second) {
            int time = startOf(day) + cell;
            if (cell >= BEHIND_SHIFTED && loses(day)) {
                return time - 2;
            }
            boolean later = cell >= BEHIND_SHIFTED || second && isShifted(cell);
            return later && doubles(day) ? time + 2 : time;
        }

        /** What clock answers for a time that there is. */
        int tell(int time) {
            int day = time / CELLS;
            // In summer a day begins two times early, so the time may be of the day behind.
            if (day < DAYS - 1 && startOf(day + 1) <= time) {
                day++;
            }
            int cell = time - startOf(day);
            if (loses(day) && cell >= FIRST_SHIFTED) {
                return 1000 * day + 10 * (cell + 2);
            }
            if (!doubles(day) || cell < FIRST_SHIFTED) {
                return 1000 * day + 10 * cell;
            }
            if (cell < BEHIND_SHIFTED) {
                return 1000 * day + 10 * cell + 1;
            }
            return 1000 * day + 10 * (cell - 2) + (isShifted(cell - 2) ? 2 : 0);
        }
    }

    /** A number 0 .. 15 for each cell; bit b of all the numbers of a day lies in one long, so a day is one step. */
    private static final class CellNumbers {
        private static final int BITS = 4;

        private final long[][] bits = new long[BITS][DAYS];

        void clear() {
            for (int b = 0; b < BITS; b++) {
                Arrays.fill(bits[b], 0L);
            }
        }

        void put(int day, long cells, int number) {
            for (int b = 0; b < BITS; b++) {
                if ((number >> b & 1) != 0) {
                    bits[b][day] |= cells;
                } else {
                    bits[b][day] &= ~cells;
                }
            }
        }

        int get(int day, int cell) {
            int number = 0;
            for (int b = 0; b < BITS; b++) {
                number |= (int) (bits[b][day] >>> cell & 1L) << b;
            }
            return number;
        }

        long cellsWith(int day, int number) {
            long cells = ALL_CELLS;
            for (int b = 0; b < BITS; b++) {
                cells &= (number >> b & 1) != 0 ? bits[b][day] : ~bits[b][day];
            }
            return cells;
        }

        long cellsAboveZero(int day) {
            long cells = 0;
            for (int b = 0; b < BITS; b++) {
                cells |= bits[b][day];
            }
            return cells;
        }

        long cellsUnlike(CellNumbers other, int day) {
            long cells = 0;
            for (int b = 0; b < BITS; b++) {
                cells |= bits[b][day] ^ other.bits[b][day];
            }
            return cells;
        }
    }

    /** A calendar: the tariff and the deciding rule of each cell; without rules it is not compiled. */
    private static final class Plan {
        private final CellNumbers tariffs = new CellNumbers();
        private final CellNumbers deciders = new CellNumbers();
        private int rules;

        void clear() {
            tariffs.clear();
            deciders.clear();
            rules = 0;
        }

        /** Lays a rule over those before it. */
        void lay(int tariff, int from, int to, DaySet days) {
            rules++;
            boolean overnight = to < from;
            long onDay = (overnight ? ALL_CELLS : cellsBelow(to)) & ~cellsBelow(from);
            long onDayBehind = overnight ? cellsBelow(to) : 0;
            boolean matchedBefore = false;
            for (int day = 0; day < DAYS; day++) {
                boolean matched = days.has(day);
                long cells = (matched ? onDay : 0) | (matchedBefore ? onDayBehind : 0);
                if (cells != 0) {
                    tariffs.put(day, cells, tariff);
                    deciders.put(day, cells, rules);
                }
                matchedBefore = matched;
            }
        }
    }

    private static final class DaySet {
        private final long[] words = new long[DAYS / 64 + 1];

        void clear() {
            Arrays.fill(words, 0L);
        }

        void fill() {
            Arrays.fill(words, -1L);
        }

        void add(int day) {
            words[day >> 6] |= 1L << (day & 63);
        }

        boolean has(int day) {
            return (words[day >> 6] >>> (day & 63) & 1L) != 0;
        }

        void join(DaySet other) {
            for (int w = 0; w < words.length; w++) {
                words[w] |= other.words[w];
            }
        }

        /** Keeps only the days that the other set has, or with negated those that it has not. */
        void keep(DaySet other, boolean negated) {
            for (int w = 0; w < words.length; w++) {
                words[w] &= negated ? ~other.words[w] : other.words[w];
            }
        }
    }

    /** The atom read last: a letter of the document and what its first and second number say. */
    private static final class Atom {
        private final Almanac almanac;
        private int kind;
        private int first;
        private int second;

        Atom(Almanac almanac) {
            this.almanac = almanac;
        }

        void become(char newKind, int newFirst, int newSecond) {
            kind = newKind;
            first = newFirst;
            second = newSecond;
        }

        void collect(DaySet days) {
            days.clear();
            for (int day = 0; day < DAYS; day++) {
                if (matches(day)) {
                    days.add(day);
                }
            }
        }

        private boolean matches(int day) {
            switch (kind) {
                case 'W':
                    return (first >> Almanac.weekday(day) & 1) != 0;
                case 'N':
                    return Almanac.weekday(day) == second && almanac.hasRank(day, first);
                case 'D':
                    return isBetween(almanac.monthAndDay(day));
                case 'P':
                    return Almanac.week(day) % 100 % 2 == first;
                case 'C':
                    return first > 0 && day % first == second;
                case 'F':
                    return day - almanac.feastDay(day) == first;
                case 'Y':
                    return isBetween(FIRST_YEAR + yearIndex(day));
                default:
                    return false;
            }
        }

        private boolean isBetween(int number) {
            if (first <= second) {
                return first <= number && number <= second;
            }
            return first <= number || number <= second;
        }
    }

    /**
     * Reads the rules of a text. It takes a character only where some text of rules goes on with it,
     * so the place where it stops is the fault.
     */
    private static final class RuleReader {
        private final Atom atom;
        private final DaySet atomDays = new DaySet();
        // By depth of the matcher that is open: its alls so far, its present all, and whether ! stands before it.
        private final DaySet[] any = new DaySet[DEEPEST_MATCHERS];
        private final DaySet[] every = new DaySet[DEEPEST_MATCHERS];
        private final boolean[] negated = new boolean[DEEPEST_MATCHERS];
        private char[] text;
        private int length;
        private int place;
        private int from;
        private int to;

        RuleReader(Almanac almanac) {
            atom = new Atom(almanac);
            for (int depth = 0; depth < DEEPEST_MATCHERS; depth++) {
                any[depth] = new DaySet();
                every[depth] = new DaySet();
            }
        }

        /** Lays the text's rules on an empty plan; false at a fault, which is then the place. */
        boolean read(char[] newText, int newLength, Plan plan) {
            text = newText;
            length = newLength;
            place = 0;
            plan.clear();
            for (int rule = 1; rule <= MOST_RULES; rule++) {
                if (!readRule(plan)) {
                    return false;
                }
                if (place == length) {
                    return true;
                }
                if (rule == MOST_RULES || !take(';')) {
                    return false;
                }
            }
            return false;
        }

        private boolean readRule(Plan plan) {
            int tariff = takeNumber(1, 0, MOST_TARIFF);
            if (tariff == NONE) {
                return false;
            }
            from = 0;
            to = CELLS;
            if (take('@') && !readSpan()) {
                return false;
            }
            if (place == length || text[place] == ';') {
                any[0].fill();
            } else if (!readMatcher()) {
                return false;
            }
            plan.lay(tariff, from, to, any[0]);
            return true;
        }

        private boolean readSpan() {
            from = takeHalfHour(23, NONE);
            if (from == NONE || !take('-')) {
                return false;
            }
            to = takeHalfHour(24, from);
            return to != NONE;
        }

        /** The cell that begins at hhmm; NONE where only the barred one or none could follow. */
        private int takeHalfHour(int latestHour, int barred) {
            int hour = takeNumber(10, 0, latestHour);
            if (hour == NONE) {
                return NONE;
            }
            int cell = 2 * hour;
            boolean read = cell != barred && take('0');
            if (!read && hour < 24 && cell + 1 != barred && take('3')) {
                cell++;
                read = true;
            }
            return read && take('0') ? cell : NONE;
        }

        /** Leaves the days that the matcher matches in any[0]. */
        private boolean readMatcher() {
            int depth = 0;
            openMatcher(depth);
            for (int n = 0; n < MOST_CHARACTERS; n++) {
                boolean not = takeNots();
                if (depth + 1 < DEEPEST_MATCHERS && take('(')) {
                    depth++;
                    openMatcher(depth);
                    negated[depth] = not;
                    continue;
                }
                if (!readAtom()) {
                    return false;
                }
                atom.collect(atomDays);
                every[depth].keep(atomDays, not);
                depth = closeMatchers(depth);
                if (take('&')) {
                    continue;
                }
                closeAll(depth);
                if (!take('|')) {
                    return depth == 0;
                }
            }
            return false;
        }

        private void openMatcher(int depth) {
            any[depth].clear();
            every[depth].fill();
        }

        private void closeAll(int depth) {
            any[depth].join(every[depth]);
            every[depth].fill();
        }

        /** Takes the brackets that close here: the depth behind them. */
        private int closeMatchers(int deepest) {
            int depth = deepest;
            while (depth > 0 && take(')')) {
                closeAll(depth);
                every[depth - 1].keep(any[depth], negated[depth]);
                depth--;
            }
            return depth;
        }

        private boolean takeNots() {
            boolean not = false;
            for (int n = 0; n < MOST_CHARACTERS && take('!'); n++) {
                not = !not;
            }
            return not;
        }

        private boolean readAtom() {
            if (take('W')) {
                return readWeekdays();
            }
            if (take('N')) {
                return readRankedWeekday();
            }
            if (take('D')) {
                return readDates();
            }
            if (take('P')) {
                int parity = takeNumber(1, 0, 1);
                atom.become('P', parity, 0);
                return parity != NONE;
            }
            if (take('C')) {
                return readCycle();
            }
            if (take('F')) {
                return readFeast();
            }
            return take('Y') && readYears();
        }

        private boolean readWeekdays() {
            int weekdays = 0;
            int last = 0;
            for (int n = 0; n < 7; n++) {
                int weekday = takeNumber(1, last + 1, 7);
                if (weekday == NONE) {
                    break;
                }
                weekdays |= 1 << weekday;
                last = weekday;
            }
            atom.become('W', weekdays, 0);
            return last > 0;
        }

        private boolean readRankedWeekday() {
            int rank = take('L') ? 0 : takeNumber(1, 1, 5);
            if (rank == NONE) {
                return false;
            }
            int weekday = takeNumber(1, 1, 7);
            atom.become('N', rank, weekday);
            return weekday != NONE;
        }

        private boolean readDates() {
            int first = takeMonthAndDay();
            if (first == NONE || !take('-')) {
                return false;
            }
            int second = takeMonthAndDay();
            atom.become('D', first, second);
            return second != NONE;
        }

        private int takeMonthAndDay() {
            int month = takeNumber(10, 1, 12);
            if (month == NONE) {
                return NONE;
            }
            int ofMonth = takeNumber(10, 1, Almanac.monthLength(Almanac.LEAP_YEAR, month));
            return ofMonth == NONE ? NONE : 100 * month + ofMonth;
        }

        private boolean readCycle() {
            int cycle = takeNumber(10, 1, 99);
            if (cycle == NONE) {
                return false;
            }
            int rest = takeNumber(10, 0, cycle - 1);
            atom.become('C', cycle, rest);
            return rest != NONE;
        }

        private boolean readFeast() {
            boolean behind = take('+');
            if (!behind && !take('-')) {
                return false;
            }
            int distance = takeNumber(10, 0, 99);
            atom.become('F', behind ? distance : -distance, 0);
            return distance != NONE;
        }

        private boolean readYears() {
            int latest = FIRST_YEAR + YEARS - 1;
            int first = takeNumber(1000, FIRST_YEAR, latest);
            if (first == NONE || !take('-')) {
                return false;
            }
            int second = takeNumber(1000, first, latest);
            atom.become('Y', first, second);
            return second != NONE;
        }

        private boolean take(char c) {
            if (place >= length || text[place] != c) {
                return false;
            }
            place++;
            return true;
        }

        /**
         * The number least .. most whose first digit counts highestUnit;
         * NONE, stopping there, at a digit with which no such number begins.
         */
        private int takeNumber(int highestUnit, int least, int most) {
            int number = 0;
            for (int unit = highestUnit; unit > 0; unit /= 10) {
                if (place >= length || text[place] < '0' || text[place] > '9') {
                    return NONE;
                }
                number += (text[place] - '0') * unit;
                if (number > most || number + unit - 1 < least) {
                    return NONE;
                }
                place++;
            }
            return number;
        }
    }
}

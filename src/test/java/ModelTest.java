import java.time.DayOfWeek;
import java.time.LocalDate;
import java.time.MonthDay;
import java.time.YearMonth;
import java.time.temporal.ChronoUnit;
import java.time.temporal.IsoFields;
import java.time.temporal.TemporalAdjusters;
import java.util.ArrayList;
import java.util.Arrays;
import java.util.List;
import java.util.Random;
import java.util.function.Predicate;

/** Random calendars and questions against a slow model over java.time that knows nothing of the program. */
public final class ModelTest {
    private static final int NONE = RuleCalendar.NONE;
    private static final int DAYS = 1461;
    private static final LocalDate START = LocalDate.of(2000, 1, 1);
    private static final Random CHANCE = new Random(20031231);
    /** By shifts off and on: each time as {day, cell, mark}. */
    private static final List<List<int[]>> TIMES = List.of(times(false), times(true));

    private ModelTest() {
    }

    /** A matcher as text and as what it matches. */
    private record Part(String text, Predicate<LocalDate> days) {
    }

    /** What a calendar of the model says: for each cell its rule, and the rules' tariffs. */
    private record Calendar(int[][] rules, int[] tariffs) {
        int tariff(int day, int cell) {
            return tariffs[rules[day][cell]];
        }
    }

    public static void main(String[] args) {
        dates();
        feasts();
        clocks();
        for (int n = 0; n < 600; n++) {
            calendars();
        }
        Check.end("ModelTest");
    }

    private static void dates() {
        for (int day = 0; day < DAYS; day++) {
            RuleCalendar x = new RuleCalendar();
            LocalDate date = START.plusDays(day);
            int year = date.getYear();
            int month = date.getMonthValue();
            int ofMonth = date.getDayOfMonth();
            Check.same("dayOf " + date, x.dayOf(year, month, ofMonth), day);
            Check.same("dateOf 0 " + date, x.dateOf(day, 0), 10000 * year + 100 * month + ofMonth);
            Check.same("dateOf 1 " + date, x.dateOf(day, 1), date.getDayOfWeek().getValue());
            Check.same("dateOf 2 " + date, x.dateOf(day, 2),
                    100 * date.get(IsoFields.WEEK_BASED_YEAR) + date.get(IsoFields.WEEK_OF_WEEK_BASED_YEAR));
        }
        for (int year = 1999; year <= 2004; year++) {
            for (int month = 0; month <= 13; month++) {
                RuleCalendar x = new RuleCalendar();
                for (int ofMonth = 0; ofMonth <= 32; ofMonth++) {
                    boolean there = year >= 2000 && year <= 2003 && month >= 1 && month <= 12 && ofMonth >= 1
                            && ofMonth <= YearMonth.of(year, month).lengthOfMonth();
                    Check.same("dayOf is there", x.dayOf(year, month, ofMonth) != NONE, there);
                }
            }
        }
    }

    private static void feasts() {
        for (int year = 1890; year <= 2310; year++) {
            LocalDate feast = feast(year);
            int due = year < 1900 || year > 2299 ? NONE : 100 * feast.getMonthValue() + feast.getDayOfMonth();
            Check.same("feast " + year, new RuleCalendar().feast(year), due);
        }
    }

    /** Easter as Knuth tells it, which is not the document's way. */
    private static LocalDate feast(int year) {
        int golden = year % 19 + 1;
        int century = year / 100 + 1;
        int dropped = 3 * century / 4 - 12;
        int moon = (8 * century + 5) / 25 - 5;
        int sunday = 5 * year / 4 - dropped - 10;
        int epact = Math.floorMod(11 * golden + 20 + moon - dropped, 30);
        if (epact == 25 && golden > 11 || epact == 24) {
            epact++;
        }
        int full = 44 - epact < 21 ? 74 - epact : 44 - epact;
        return LocalDate.of(year, 3, 1).plusDays(full + 7 - (sunday + full) % 7 - 1);
    }

    private static boolean isLastSunday(int day, int month) {
        LocalDate date = START.plusDays(day);
        return date.getMonthValue() == month
                && date.equals(date.with(TemporalAdjusters.lastInMonth(DayOfWeek.SUNDAY)));
    }

    private static List<int[]> times(boolean shifts) {
        List<int[]> times = new ArrayList<>();
        for (int day = 0; day < DAYS; day++) {
            boolean loses = shifts && isLastSunday(day, 3);
            boolean doubles = shifts && isLastSunday(day, 10);
            for (int cell = 0; cell < 48; cell++) {
                if (cell == 6 && doubles) {
                    times.add(new int[] {day, 4, 2});
                    times.add(new int[] {day, 5, 2});
                }
                if (cell != 4 && cell != 5 || !loses) {
                    times.add(new int[] {day, cell, doubles && (cell == 4 || cell == 5) ? 1 : 0});
                }
            }
        }
        return times;
    }

    private static void clocks() {
        for (int on = 0; on < 2; on++) {
            RuleCalendar x = null;
            List<int[]> times = TIMES.get(on);
            Check.same("times", times.size(), 70128);
            for (int time = 0; time < times.size(); time++) {
                if (time % 160 == 0) {
                    x = new RuleCalendar();
                    x.shifts(on == 1);
                }
                int[] due = times.get(time);
                Check.same("clock " + time, x.clock(time), 1000 * due[0] + 10 * due[1] + due[2]);
                Check.same("elapsed " + time, x.elapsed(due[0], due[1], due[2] == 2), time);
                if (due[2] == 0) {
                    Check.same("elapsed, second " + time, x.elapsed(due[0], due[1], true), time);
                }
            }
        }
    }

    private static int number(int least, int most) {
        return least + CHANCE.nextInt(most - least + 1);
    }

    private static Part atom() {
        switch (CHANCE.nextInt(7)) {
            case 0:
                return weekdays();
            case 1:
                return rankedWeekday();
            case 2:
                return dateRange();
            case 3:
                int parity = number(0, 1);
                return new Part("P" + parity, d -> d.get(IsoFields.WEEK_OF_WEEK_BASED_YEAR) % 2 == parity);
            case 4:
                int cycle = number(1, 99);
                int rest = number(0, cycle - 1);
                return new Part(String.format("C%02d%02d", cycle, rest),
                        d -> ChronoUnit.DAYS.between(START, d) % cycle == rest);
            case 5:
                int distance = number(0, 99);
                boolean behind = CHANCE.nextBoolean();
                return new Part(String.format("F%s%02d", behind ? "+" : "-", distance),
                        d -> feast(d.getYear()).plusDays(behind ? distance : -distance).equals(d));
            default:
                int first = number(2000, 2003);
                int last = number(first, 2003);
                return new Part("Y" + first + "-" + last, d -> d.getYear() >= first && d.getYear() <= last);
        }
    }

    private static Part weekdays() {
        StringBuilder digits = new StringBuilder();
        for (int weekday = 1; weekday <= 7; weekday++) {
            if (CHANCE.nextInt(3) == 0) {
                digits.append(weekday);
            }
        }
        String text = digits.length() == 0 ? "7" : digits.toString();
        return new Part("W" + text, d -> text.indexOf('0' + d.getDayOfWeek().getValue()) >= 0);
    }

    private static Part rankedWeekday() {
        int rank = number(1, 6);
        DayOfWeek weekday = DayOfWeek.of(number(1, 7));
        if (rank == 6) {
            return new Part("NL" + weekday.getValue(), d -> d.with(TemporalAdjusters.lastInMonth(weekday)).equals(d));
        }
        return new Part("N" + rank + weekday.getValue(),
                d -> d.with(TemporalAdjusters.dayOfWeekInMonth(rank, weekday)).equals(d));
    }

    private static Part dateRange() {
        MonthDay first = MonthDay.from(LocalDate.of(2000, 1, 1).plusDays(number(0, 365)));
        MonthDay last = CHANCE.nextInt(4) == 0 ? MonthDay.of(2, 29)
                : MonthDay.from(LocalDate.of(2000, 1, 1).plusDays(number(0, 365)));
        String text = String.format("D%02d%02d-%02d%02d", first.getMonthValue(), first.getDayOfMonth(),
                last.getMonthValue(), last.getDayOfMonth());
        return new Part(text, d -> {
            MonthDay day = MonthDay.from(d);
            boolean fromFirst = !day.isBefore(first);
            boolean toLast = !day.isAfter(last);
            return first.isAfter(last) ? fromFirst || toLast : fromFirst && toLast;
        });
    }

    private static Part one(int depth) {
        if (CHANCE.nextInt(4) == 0) {
            Part one = one(depth);
            return new Part("!" + one.text, one.days.negate());
        }
        if (depth < 4 && CHANCE.nextInt(4) == 0) {
            Part inner = matcher(depth + 1);
            return new Part("(" + inner.text + ")", inner.days);
        }
        return atom();
    }

    private static Part matcher(int depth) {
        Part matcher = null;
        for (int alls = number(1, 2); alls > 0; alls--) {
            Part all = one(depth);
            for (int ones = number(0, 1); ones > 0; ones--) {
                Part more = one(depth);
                all = new Part(all.text + "&" + more.text, all.days.and(more.days));
            }
            matcher = matcher == null ? all : new Part(matcher.text + "|" + all.text, matcher.days.or(all.days));
        }
        return matcher;
    }

    private static String half(int cell) {
        return String.format("%02d%s", cell / 2, cell % 2 == 0 ? "00" : "30");
    }

    /** Types and compiles random rules; what the model makes of them. */
    private static Calendar someCalendar(RuleCalendar x, int calendar) {
        StringBuilder text = new StringBuilder();
        int[][] rules = new int[DAYS][48];
        int[] tariffs = new int[13];
        int most = number(1, 12);
        int count = 0;
        for (int tries = 0; tries < 12 && count < most; tries++) {
            int tariff = CHANCE.nextInt(3) == 0 ? number(0, 9) : number(0, 2);
            int from = 0;
            int to = 48;
            String rule = "" + tariff;
            if (CHANCE.nextInt(3) > 0) {
                from = CHANCE.nextInt(3) == 0 ? number(2, 6) : number(0, 47);
                to = CHANCE.nextInt(3) == 0 ? number(3, 7) : number(0, 48);
                to = from == to ? to + 1 : to;
                rule += "@" + half(from) + "-" + half(to);
            }
            Part part = CHANCE.nextInt(6) == 0 ? new Part("", d -> true) : matcher(1);
            rule += part.text;
            if (text.length() + rule.length() < 100) {
                text.append(count > 0 ? ";" : "").append(rule);
                count++;
                tariffs[count] = tariff;
                lay(rules, count, from, to, part.days);
            }
        }
        if (count == 0) {
            text.append("1");
            count = 1;
            tariffs[1] = 1;
            lay(rules, 1, 0, 48, d -> true);
        }
        Check.compiled(x, calendar, text.toString(), count);
        return new Calendar(rules, Arrays.copyOf(tariffs, count + 1));
    }

    private static void lay(int[][] rules, int rule, int from, int to, Predicate<LocalDate> days) {
        for (int day = 0; day < DAYS; day++) {
            if (days.test(START.plusDays(day))) {
                int length = to > from ? to - from : to + 48 - from;
                for (int n = from; n < from + length; n++) {
                    if (day + n / 48 < DAYS) {
                        rules[day + n / 48][n % 48] = rule;
                    }
                }
            }
        }
    }

    private static void calendars() {
        RuleCalendar x = new RuleCalendar();
        Calendar[] model = {someCalendar(x, 0), someCalendar(x, 1)};
        for (int n = 0; n < 5; n++) {
            int on = CHANCE.nextInt(2);
            x.shifts(on == 1);
            int c = CHANCE.nextInt(2);
            ofCells(x, c, model[c], on);
            ofDays(x, c, model[c], on);
            ofAll(x, model, on);
        }
    }

    private static int someDay() {
        int[] shifted = {85, 302, 449, 666, 820, 1030, 1184, 1394};
        return CHANCE.nextInt(4) == 0 ? shifted[CHANCE.nextInt(8)] + number(-1, 1) : number(0, DAYS - 1);
    }

    private static int timeOf(int on, int day, int cell) {
        List<int[]> times = TIMES.get(on);
        for (int time = Math.max(0, 48 * day - 2); time < times.size() && times.get(time)[0] <= day; time++) {
            if (times.get(time)[0] == day && times.get(time)[1] == cell) {
                return time;
            }
        }
        return NONE;
    }

    private static void ofCells(RuleCalendar x, int c, Calendar model, int on) {
        List<int[]> times = TIMES.get(on);
        for (int n = 0; n < 6; n++) {
            int day = someDay();
            int cell = CHANCE.nextBoolean() ? number(2, 7) : number(0, 47);
            int time = timeOf(on, day, cell);
            String name = c + ", " + day + ", " + cell + ", shifts " + on;
            Check.same("at " + name, x.at(c, day, cell), time == NONE ? NONE : model.tariff(day, cell));
            Check.same("which " + name, x.which(c, day, cell), time == NONE ? NONE : model.rules[day][cell]);
            int due = NONE;
            for (int later = time + 1; time != NONE && due == NONE && later < times.size(); later++) {
                int[] there = times.get(later);
                due = model.tariff(there[0], there[1]) != model.tariff(day, cell) ? later - time : NONE;
            }
            Check.same("next " + name, x.next(c, day, cell), due);
        }
    }

    private static void ofDays(RuleCalendar x, int c, Calendar model, int on) {
        int day = someDay();
        List<int[]> runs = new ArrayList<>();
        int before = 0;
        for (int cell = 0; cell < 48; cell++) {
            if (timeOf(on, day, cell) != NONE) {
                int tariff = model.tariff(day, cell);
                if (tariff > 0 && tariff != before) {
                    runs.add(new int[] {cell, cell, tariff});
                } else if (tariff > 0) {
                    runs.get(runs.size() - 1)[1] = cell;
                }
                before = tariff;
            }
        }
        int i = number(0, runs.size());
        for (int what = 0; what < 3; what++) {
            Check.same("run " + day + ", " + i + ", " + what + ", shifts " + on,
                    x.run(c, day, i, what), i < runs.size() ? runs.get(i)[what] : NONE);
        }
        int from = CHANCE.nextBoolean() ? day : number(0, DAYS);
        int to = CHANCE.nextBoolean() ? Math.min(DAYS, from + 1) : number(from, DAYS);
        int tariff = number(0, 3);
        int due = 0;
        for (int[] time : TIMES.get(on)) {
            due += time[0] >= from && time[0] < to && model.tariff(time[0], time[1]) == tariff ? 1 : 0;
        }
        Check.same("total " + from + " to " + to, x.total(c, from, to, tariff), due);
    }

    private static void ofAll(RuleCalendar x, Calendar[] model, int on) {
        int different = NONE;
        boolean inside = true;
        boolean[][] decides = new boolean[2][13];
        for (int[] time : TIMES.get(on)) {
            int one = model[0].tariff(time[0], time[1]);
            int other = model[1].tariff(time[0], time[1]);
            different = different == NONE && one != other ? 100 * time[0] + time[1] : different;
            inside &= one == 0 || other > 0;
            decides[0][model[0].rules[time[0]][time[1]]] = true;
            decides[1][model[1].rules[time[0]][time[1]]] = true;
        }
        Check.same("compare", x.compare(0, 1), different);
        Check.same("compare the other way", x.compare(1, 0), different);
        Check.same("inside", x.inside(0, 1), inside);
        for (int c = 0; c < 2; c++) {
            int seen = 0;
            for (int rule = 1; rule < model[c].tariffs.length; rule++) {
                if (!decides[c][rule]) {
                    Check.same("dead " + seen, x.dead(c, seen), rule);
                    seen++;
                }
            }
            Check.same("dead behind the last", x.dead(c, seen), NONE);
        }
    }
}

/** Which exception each call throws, for all ways to put good and bad arguments together. */
public final class RefusalTest {
    private static final int MAX = Integer.MAX_VALUE;
    private static final int MIN = Integer.MIN_VALUE;
    private static final int COMPILED = 1;
    private static final int[] CALENDARS = {MIN, -1, 0, COMPILED, 2, 3, MAX};
    private static final int[] DAYS = {MIN, -1, 0, 85, 302, 1460, 1461, MAX};
    private static final int[] CELLS = {MIN, -1, 0, 4, 47, 48, MAX};
    private static final int[] BOUNDS = {MIN, -1, 0, 1, 1460, 1461, 1462, MAX};
    private static final int[] ANY = {MIN, -1, 0, 1, 2, 3, 48, MAX};

    private RefusalTest() {
    }

    public static void main(String[] args) {
        for (boolean on : new boolean[] {false, true}) {
            ofText(on);
            ofCells(on);
            ofDays(on);
            ofPairs(on);
            ofNone(on);
        }
        Check.end("RefusalTest");
    }

    /** A new object with one calendar compiled. */
    private static RuleCalendar fresh(boolean on) {
        RuleCalendar x = new RuleCalendar();
        Check.compiled(x, COMPILED, "1@0130-0230;2W67", 2);
        x.shifts(on);
        return x;
    }

    private static boolean isCalendar(int calendar) {
        return calendar >= 0 && calendar <= 2;
    }

    private static boolean isDay(int day) {
        return day >= 0 && day <= 1460;
    }

    private static boolean isCell(int cell) {
        return cell >= 0 && cell <= 47;
    }

    private static void due(String call, Runnable action, boolean there, boolean compiled) {
        if (!there) {
            Check.noIndex(call, action);
        } else if (!compiled) {
            Check.noState(call, action);
        } else {
            Check.noException(call, action);
        }
    }

    private static void ofText(boolean on) {
        for (int calendar : CALENDARS) {
            RuleCalendar x = fresh(on);
            due("compile " + calendar, () -> x.compile(calendar), isCalendar(calendar), true);
            Check.type(x, "1");
            due("compile " + calendar, () -> x.compile(calendar), isCalendar(calendar), true);
        }
    }

    private static void ofCells(boolean on) {
        for (int calendar : CALENDARS) {
            RuleCalendar x = fresh(on);
            boolean compiled = calendar == COMPILED;
            for (int day : DAYS) {
                for (int cell : CELLS) {
                    boolean there = isCalendar(calendar) && isDay(day) && isCell(cell);
                    String name = calendar + ", " + day + ", " + cell;
                    due("at " + name, () -> x.at(calendar, day, cell), there, compiled);
                    due("which " + name, () -> x.which(calendar, day, cell), there, compiled);
                    due("next " + name, () -> x.next(calendar, day, cell), there, compiled);
                    due("elapsed " + name, () -> x.elapsed(day, cell, on), isDay(day) && isCell(cell), true);
                }
            }
        }
    }

    private static void ofDays(boolean on) {
        for (int calendar : CALENDARS) {
            boolean compiled = calendar == COMPILED;
            for (int any : ANY) {
                RuleCalendar x = fresh(on);
                due("dead " + calendar + ", " + any, () -> x.dead(calendar, any), isCalendar(calendar), compiled);
                for (int from : BOUNDS) {
                    for (int to : BOUNDS) {
                        boolean there = isCalendar(calendar) && 0 <= from && from <= to && to <= 1461;
                        due("total " + calendar + ", " + from + ", " + to + ", " + any,
                                () -> x.total(calendar, from, to, any), there, compiled);
                    }
                }
                for (int day : DAYS) {
                    for (int what : ANY) {
                        due("run " + calendar + ", " + day + ", " + any + ", " + what,
                                () -> x.run(calendar, day, any, what), isCalendar(calendar) && isDay(day), compiled);
                    }
                }
            }
        }
    }

    private static void ofPairs(boolean on) {
        RuleCalendar x = fresh(on);
        for (int one : CALENDARS) {
            for (int other : CALENDARS) {
                boolean there = isCalendar(one) && isCalendar(other);
                boolean compiled = one == COMPILED && other == COMPILED;
                due("compare " + one + ", " + other, () -> x.compare(one, other), there, compiled);
                due("inside " + one + ", " + other, () -> x.inside(one, other), there, compiled);
            }
        }
    }

    private static void ofNone(boolean on) {
        for (int one : DAYS) {
            RuleCalendar x = fresh(on);
            Check.noException("clock " + one, () -> x.clock(one));
            Check.noException("feast " + one, () -> x.feast(one));
            for (int other : ANY) {
                Check.noException("dateOf " + one + ", " + other, () -> x.dateOf(one, other));
                for (int another : BOUNDS) {
                    Check.noException("dayOf " + one + ", " + other + ", " + another,
                            () -> x.dayOf(one, other, another));
                    Check.noException("dayOf 2000, " + other + ", " + another,
                            () -> x.dayOf(2000, other, another));
                }
            }
        }
    }
}

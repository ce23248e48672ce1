/** The boundaries that promises 1 to 18 name: a method a sentence, just inside, at and just beyond it. */
public final class CallsEdgeTest {
    private static final int NONE = RuleCalendar.NONE;
    private static final int MAX = Integer.MAX_VALUE;
    private static final int MIN = Integer.MIN_VALUE;

    private CallsEdgeTest() {
    }

    public static void main(String[] args) {
        newObject();
        typeAppends();
        typeRefuses();
        wipe();
        compileEmptiesTheText();
        compileCountsRules();
        compileReplaces();
        compileAtAFault();
        compileWithoutCalendar();
        shifts();
        at();
        atLost();
        which();
        whichLost();
        nextIsTheLeast();
        nextAtTheEnd();
        nextOfTwo();
        nextLost();
        totalDays();
        totalTariffs();
        totalTimes();
        totalWithoutDays();
        dayOf();
        dateOf();
        feast();
        elapsedSecond();
        elapsedLost();
        elapsedWithoutCell();
        clock();
        compareFirst();
        compareNone();
        compareLost();
        compareStates();
        insideAboveZero();
        insideLost();
        insideStates();
        deadNumbers();
        deadNotSoMany();
        deadLost();
        runsOfADay();
        runsAtTheEnds();
        runsLost();
        runsDoubled();
        runNone();
        Check.end("CallsEdgeTest");
    }

    private static void newObject() {
        Check.about("1: No text; nothing compiled; shifts off");
        RuleCalendar x = new RuleCalendar();
        Check.same("compile of no text", x.compile(0), -1);
        Check.same("wipe", x.wipe(), 0);
        for (int calendar = 0; calendar < 3; calendar++) {
            int c = calendar;
            Check.noState("at of " + c, () -> x.at(c, 0, 0));
        }
        Check.same("elapsed", x.elapsed(1394, 5, true), 1394 * 48 + 5);
        RuleCalendar y = new RuleCalendar();
        Check.type(x, "1");
        x.compile(0);
        x.shifts(true);
        Check.type(x, "2");
        Check.same("another object's text", y.wipe(), 0);
        Check.noState("another object's calendar", () -> y.at(0, 0, 0));
        Check.same("another object's shifts", y.elapsed(85, 4, false), 85 * 48 + 4);
    }

    private static void typeAppends() {
        Check.about("2: Appends a character to the text: true");
        RuleCalendar x = new RuleCalendar();
        Check.same("type", x.type('1'), true);
        Check.same("type", x.type('W'), true);
        Check.same("type", x.type('6'), true);
        Check.same("compile", x.compile(0), 1);
        Check.same("at", x.at(0, 0, 0), 1);
        Check.same("type behind compile", x.type('2'), true);
        Check.same("wipe", x.wipe(), 1);
    }

    private static void typeRefuses() {
        Check.about("2: false when c is not 32 .. 126 or there are 100");
        RuleCalendar x = new RuleCalendar();
        Check.same("type 31 into no text", x.type((char) 31), false);
        Check.same("type 127 into no text", x.type((char) 127), false);
        Check.same("nothing is appended", x.wipe(), 0);
        Check.same("type 32", x.type((char) 32), true);
        Check.same("type 126", x.type((char) 126), true);
        Check.same("both are appended", x.wipe(), 2);
        Check.type(x, "12345678901234567890".repeat(4) + "1234567890123456789");
        Check.same("type 31 into 99", x.type((char) 31), false);
        Check.same("type the 100th", x.type('~'), true);
        Check.same("type the 101st", x.type(' '), false);
        Check.same("type 127 into 100", x.type((char) 127), false);
        Check.same("100 are there", x.wipe(), 100);
        Check.same("type behind wipe", x.type('1'), true);
        Check.same("one is there", x.wipe(), 1);
        Check.type(x, "1" + ";1".repeat(11) + "W1".repeat(38) + "x");
        Check.same("compile of 100", x.compile(0), -1 - 25);
        Check.same("type behind compile", x.type('1'), true);
    }

    private static void wipe() {
        Check.about("3: The text is empty; how many characters it had");
        RuleCalendar x = new RuleCalendar();
        Check.same("wipe of none", x.wipe(), 0);
        Check.type(x, "1");
        Check.same("wipe of one", x.wipe(), 1);
        Check.same("wipe again", x.wipe(), 0);
        Check.type(x, "x".repeat(100));
        Check.same("wipe of 100", x.wipe(), 100);
        Check.compiled(x, 0, "5W6", 1);
        Check.same("at", x.at(0, 0, 0), 5);
        Check.type(x, "7");
        Check.same("wipe", x.wipe(), 1);
        Check.same("the calendar stays", x.at(0, 0, 0), 5);
        Check.same("compile of the wiped text", x.compile(0), -1);
    }

    private static void compileEmptiesTheText() {
        Check.about("4: The text, which is empty then");
        RuleCalendar x = new RuleCalendar();
        Check.compiled(x, 0, "1", 1);
        Check.same("behind rules", x.wipe(), 0);
        Check.compiled(x, 0, "1x", -2);
        Check.same("behind a fault", x.wipe(), 0);
        Check.compiled(x, 0, "1;", -3);
        Check.same("behind a fault at its end", x.wipe(), 0);
        Check.same("compile of no text", x.compile(0), -1);
        Check.compiled(x, 0, "2", 1);
        Check.same("the next text is read from its own beginning", x.at(0, 0, 0), 2);
    }

    private static void compileCountsRules() {
        Check.about("4: becomes a calendar: how many rules it has");
        for (int rules = 1; rules <= 12; rules++) {
            RuleCalendar x = Check.with("1" + ";1".repeat(rules - 1), rules);
            Check.same("the last decides", x.which(0, 0, 0), rules);
            Check.same("the last that is dead", x.dead(0, rules - 2), rules == 1 ? NONE : rules - 1);
            Check.same("no more are dead", x.dead(0, rules - 1), NONE);
        }
        Check.with("1W1&!W1", 1);
    }

    private static void compileReplaces() {
        Check.about("4: becomes a calendar: nothing of an earlier one is left");
        RuleCalendar x = new RuleCalendar();
        for (int round = 0; round < 4; round++) {
            Check.compiled(x, 0, "1;2;3;9", 4);
            Check.same("at", x.at(0, 0, 1), 9);
            Check.same("which", x.which(0, 0, 1), 4);
            Check.same("dead", x.dead(0, 2), 3);
            Check.compiled(x, 0, "1@0000-0030W6", 1);
            Check.same("at its cell", x.at(0, 0, 0), 1);
            Check.same("which of its cell", x.which(0, 0, 0), 1);
            Check.same("at another", x.at(0, 0, 1), 0);
            Check.same("which of another", x.which(0, 1460, 47), 0);
            Check.same("dead", x.dead(0, 0), NONE);
            Check.compiled(x, 0, "2W7", 1);
            Check.same("at its day", x.at(0, 1, 0), 2);
            Check.same("at the day of the one before", x.at(0, 0, 0), 0);
            Check.same("which of the day of the one before", x.which(0, 0, 0), 0);
            Check.same("which of another day", x.which(0, 1460, 47), 0);
        }
        Check.compiled(x, 1, "3W7", 1);
        Check.compiled(x, 2, "4W7", 1);
        Check.compiled(x, 1, "5W1", 1);
        Check.same("the others stay", x.at(0, 1, 0), 2);
        Check.same("the others stay", x.at(2, 1, 0), 4);
        Check.same("the new one", x.at(1, 2, 0), 5);
        Check.same("of the old one", x.at(1, 1, 0), 0);
    }

    private static void compileAtAFault() {
        Check.about("4: -1 - p with a fault p, the calendar staying as it was");
        RuleCalendar x = new RuleCalendar();
        Check.compiled(x, 0, "", -1);
        Check.compiled(x, 0, "x", -1);
        Check.compiled(x, 0, "7;8;x", -5);
        Check.noState("a calendar that is not compiled stays so", () -> x.at(0, 0, 0));
        Check.compiled(x, 0, "3@0000-0030W6;4@0030-0100", 2);
        String[] texts = {"", "9;", "9;x", "9;9;9;9;9;9;9;9;9;9;9;9;9", "9!"};
        int[] due = {-1, -3, -3, -24, -3};
        for (int n = 0; n < texts.length; n++) {
            Check.compiled(x, 0, texts[n], due[n]);
            Check.runs(x, 0, new int[][] {{0, 0, 3}, {1, 1, 4}});
            Check.runs(x, 1460, new int[][] {{1, 1, 4}});
            Check.same("which stays", x.which(0, 0, 1), 2);
            Check.same("the count of dead rules stays", x.dead(0, 0), NONE);
        }
        Check.compiled(x, 0, "5@0100-0130", 1);
        Check.runs(x, 0, new int[][] {{2, 2, 5}});
    }

    private static void compileWithoutCalendar() {
        Check.about("4: IndexOutOfBounds (the text stays)");
        RuleCalendar x = new RuleCalendar();
        Check.type(x, "6;5");
        for (int calendar : new int[] {-1, 3, MIN, MAX}) {
            Check.noIndex("compile of " + calendar, () -> x.compile(calendar));
        }
        Check.same("the text stays", x.wipe(), 3);
        Check.type(x, "x");
        Check.noIndex("also with a fault", () -> x.compile(3));
        Check.same("the text stays", x.compile(2), -1);
        Check.noIndex("also without a text", () -> x.compile(-1));
        Check.type(x, "6;5");
        Check.noIndex("compile", () -> x.compile(-1));
        Check.same("the text stays", x.compile(0), 2);
        Check.same("at", x.at(0, 0, 0), 5);
    }

    private static void shifts() {
        Check.about("5: Shifts are on, or off");
        RuleCalendar x = Check.with("1@0200-0230", 1);
        boolean[] states = {false, true, true, false, false, true};
        for (boolean on : states) {
            x.shifts(on);
            Check.same("lost", x.at(0, 85, 4), on ? NONE : 1);
            Check.same("twice", x.total(0, 302, 303, 1), on ? 2 : 1);
            Check.same("clock", x.clock(4084), on ? 85060 : 85040);
        }
        Check.compiled(x, 0, "2", 1);
        Check.same("compile lets them be", x.at(0, 85, 4), NONE);
        x.wipe();
        Check.same("wipe lets them be", x.at(0, 85, 4), NONE);
    }

    private static void at() {
        Check.about("6: The tariff of a cell");
        RuleCalendar x = Check.with("9@0000-0030D0101-0101&Y2000-2000;8@2330-2400D1231-1231&Y2003-2003", 2);
        Check.same("the first", x.at(0, 0, 0), 9);
        Check.same("behind it", x.at(0, 0, 1), 0);
        Check.same("before the last", x.at(0, 1460, 46), 0);
        Check.same("the last", x.at(0, 1460, 47), 8);
    }

    private static void atLost() {
        Check.about("6: NONE if it is lost");
        RuleCalendar x = Check.with("0;7@0200-0300", 2);
        x.shifts(true);
        int[] due = {0, NONE, NONE, 0};
        for (int n = 0; n < due.length; n++) {
            Check.same("at of cell " + (3 + n), x.at(0, 449, 3 + n), due[n]);
            Check.same("the day before", x.at(0, 448, 3 + n), n == 0 || n == 3 ? 0 : 7);
            Check.same("the day behind", x.at(0, 450, 3 + n), n == 0 || n == 3 ? 0 : 7);
            Check.same("a week before", x.at(0, 442, 3 + n), n == 0 || n == 3 ? 0 : 7);
            Check.same("a doubling day", x.at(0, 666, 3 + n), n == 0 || n == 3 ? 0 : 7);
        }
    }

    private static void which() {
        Check.about("7: The number, from 1 on, of the rule that decides a cell; 0 if none does");
        RuleCalendar x = Check.with("1@0000-0030;0@0030-0100;1@0030-0100W6", 3);
        Check.same("the first", x.which(0, 1, 0), 1);
        Check.same("one of tariff 0", x.which(0, 1, 1), 2);
        Check.same("the last", x.which(0, 0, 1), 3);
        Check.same("none", x.which(0, 0, 2), 0);
        RuleCalendar y = Check.with("1;1;1;1;1;1;1;1;1;1;1;0@2330-2400", 12);
        Check.same("11", y.which(0, 1460, 46), 11);
        Check.same("12", y.which(0, 1460, 47), 12);
    }

    private static void whichLost() {
        Check.about("7: NONE if it is lost");
        RuleCalendar x = Check.with("1@0230-0330", 1);
        x.shifts(true);
        int[] due = {0, NONE, NONE, 1, 0};
        for (int n = 0; n < due.length; n++) {
            Check.same("which of cell " + (3 + n), x.which(0, 1184, 3 + n), due[n]);
        }
        Check.same("a doubling day", x.which(0, 1394, 4), 0);
        Check.same("a doubling day", x.which(0, 1394, 5), 1);
    }

    private static void nextIsTheLeast() {
        Check.about("8: The least n above 0 such that n times behind this cell there is a cell with another tariff");
        RuleCalendar x = Check.with("1@0800-0900;1@0900-1000;2@1000-1030;1@1100-1130", 4);
        Check.same("before the first", x.next(0, 9, 15), 1);
        Check.same("another rule of the same tariff", x.next(0, 9, 16), 4);
        Check.same("its last cell", x.next(0, 9, 19), 1);
        Check.same("to tariff 0", x.next(0, 9, 20), 1);
        Check.same("from tariff 0", x.next(0, 9, 21), 1);
        Check.same("over midnight", x.next(0, 9, 23), 41);
        Check.same("from cell 0", x.next(0, 9, 0), 16);
        Check.same("from cell 47", x.next(0, 9, 47), 17);
    }

    private static void nextAtTheEnd() {
        Check.about("8: NONE if there is none");
        RuleCalendar x = Check.with("1@2330-2400D1231-1231&Y2003-2003", 1);
        for (int on = 0; on < 2; on++) {
            x.shifts(on == 1);
            Check.same("from the first time to the last", x.next(0, 0, 0), 70127);
            Check.same("from the second time", x.next(0, 0, 1), 70126);
            Check.same("to the last time", x.next(0, 1460, 46), 1);
            Check.same("from the last time", x.next(0, 1460, 47), NONE);
        }
        RuleCalendar y = Check.with("1@0000-0030D0101-0101&Y2000-2000", 1);
        Check.same("from the first cell", y.next(0, 0, 0), 1);
        Check.same("none behind it", y.next(0, 0, 1), NONE);
        RuleCalendar z = Check.with("1;1W1", 2);
        Check.same("one tariff alone", z.next(0, 0, 0), NONE);
    }

    private static void nextOfTwo() {
        Check.about("8: this cell (the first one of two)");
        RuleCalendar x = Check.with("1@0200-0230;2@0230-0300W7", 2);
        x.shifts(true);
        int[] due = {1, 1, 1, 46};
        for (int n = 0; n < due.length; n++) {
            Check.same("4 and 5 differ: from " + (3 + n), x.next(0, 666, 3 + n), due[n]);
        }
        RuleCalendar y = Check.with("1@0200-0300", 1);
        y.shifts(true);
        int[] alike = {1, 4, 3, 46};
        for (int n = 0; n < alike.length; n++) {
            Check.same("4 and 5 alike: from " + (3 + n), y.next(0, 666, 3 + n), alike[n]);
        }
        RuleCalendar z = Check.with("1@0200-0330", 1);
        z.shifts(true);
        int[] longer = {1, 5, 4, 1, 45};
        for (int n = 0; n < longer.length; n++) {
            Check.same("4 to 6 alike: from " + (3 + n), z.next(0, 666, 3 + n), longer[n]);
        }
        z.shifts(false);
        Check.same("once, when shifts are off", z.next(0, 666, 4), 3);
    }

    private static void nextLost() {
        Check.about("8: NONE if this one is lost");
        RuleCalendar x = Check.with("1@0200-0300;2@0300-0330", 2);
        x.shifts(true);
        Check.same("from 3, over the lost ones", x.next(0, 820, 3), 1);
        Check.same("from 4", x.next(0, 820, 4), NONE);
        Check.same("from 5", x.next(0, 820, 5), NONE);
        Check.same("from 6", x.next(0, 820, 6), 1);
        Check.same("from cell 0", x.next(0, 820, 0), 4);
        RuleCalendar y = Check.with("1@0200-0300D0331-0331&Y2002-2002", 1);
        y.shifts(true);
        Check.same("only lost ones differ", y.next(0, 820, 3), NONE);
        y.shifts(false);
        Check.same("they differ when shifts are off", y.next(0, 820, 3), 1);
    }

    private static void totalDays() {
        Check.about("9: How many times on the days from .. to - 1");
        RuleCalendar x = Check.with("1W6", 1);
        Check.same("no day", x.total(0, 0, 0, 1), 0);
        Check.same("no day", x.total(0, 7, 7, 1), 0);
        Check.same("no day at the end", x.total(0, 1461, 1461, 0), 0);
        Check.same("day 0", x.total(0, 0, 1, 1), 48);
        Check.same("to the day before", x.total(0, 1, 7, 1), 0);
        Check.same("to the day", x.total(0, 1, 8, 1), 48);
        Check.same("from the day", x.total(0, 7, 14, 1), 48);
        Check.same("from the day behind", x.total(0, 8, 14, 1), 0);
        Check.same("the last day", x.total(0, 1460, 1461, 0), 48);
        Check.same("all", x.total(0, 0, 1461, 1), 209 * 48);
        Check.same("all others", x.total(0, 0, 1461, 0), 1252 * 48);
    }

    private static void totalTariffs() {
        Check.about("9: have a tariff");
        RuleCalendar x = Check.with("9;8@0000-0030;0@0030-0130", 3);
        int[][] due = {{0, 2}, {8, 1}, {9, 45}, {1, 0}, {7, 0}, {-1, 0}, {10, 0}, {16, 0}, {24, 0}, {25, 0},
            {-7, 0}, {MIN, 0}, {MAX, 0}};
        for (int[] tariff : due) {
            Check.same("tariff " + tariff[0], x.total(0, 5, 6, tariff[0]), tariff[1]);
        }
    }

    private static void totalTimes() {
        Check.about("9: times: lost cells have none, doubled ones two");
        RuleCalendar x = Check.with("1@0200-0230;2@0230-0300;3@0130-0200;4@0300-0330", 4);
        x.shifts(true);
        int[] lost = {44, 0, 0, 1, 1};
        int[] twice = {44, 2, 2, 1, 1};
        for (int tariff = 0; tariff < 5; tariff++) {
            Check.same("a losing day, " + tariff, x.total(0, 85, 86, tariff), lost[tariff]);
            Check.same("a doubling day, " + tariff, x.total(0, 302, 303, tariff), twice[tariff]);
            Check.same("both, " + tariff, x.total(0, 85, 303, tariff), (tariff == 0 ? 44 : 1) * 218);
        }
        x.shifts(false);
        Check.same("a losing day, off", x.total(0, 85, 86, 1), 1);
        Check.same("a doubling day, off", x.total(0, 302, 303, 1), 1);
    }

    private static void totalWithoutDays() {
        Check.about("9: IndexOutOfBounds, also unless 0 <= from <= to <= 1461");
        RuleCalendar x = Check.with("1", 1);
        int[][] bad = {{-1, 0}, {-1, -1}, {-1, 1461}, {1, 0}, {1461, 1460}, {0, -1}, {0, 1462}, {1461, 1462},
            {1462, 1462}, {1462, 1461}, {MIN, MAX}, {MAX, MIN}, {0, MAX}, {0, MIN}, {MIN, 0}, {MAX, 0}, {MAX, MAX},
            {MIN, MIN}};
        for (int[] days : bad) {
            Check.noIndex("total " + days[0] + ", " + days[1], () -> x.total(0, days[0], days[1], 1));
            Check.noIndex("not compiled, " + days[0] + ", " + days[1], () -> x.total(1, days[0], days[1], 1));
            Check.noIndex("no tariff, " + days[0] + ", " + days[1], () -> x.total(0, days[0], days[1], -1));
        }
        int[][] good = {{0, 0}, {0, 1}, {1, 1}, {1460, 1460}, {1460, 1461}, {1461, 1461}, {0, 1461}};
        for (int[] days : good) {
            Check.same("total " + days[0] + ", " + days[1], x.total(0, days[0], days[1], 1), 48 * (days[1] - days[0]));
            Check.noState("not compiled", () -> x.total(1, days[0], days[1], 1));
        }
    }

    private static void dayOf() {
        Check.about("10: The day of a date; NONE if there is no such one");
        int day = 0;
        for (int year = 2000; year <= 2003; year++) {
            RuleCalendar x = new RuleCalendar();
            int[] lengths = {31, year == 2000 ? 29 : 28, 31, 30, 31, 30, 31, 31, 30, 31, 30, 31};
            for (int month = 1; month <= 12; month++) {
                int last = lengths[month - 1];
                String name = year + "-" + month;
                Check.same(name + "-0", x.dayOf(year, month, 0), NONE);
                Check.same(name + "-1", x.dayOf(year, month, 1), day);
                Check.same(name + "-" + last, x.dayOf(year, month, last), day + last - 1);
                Check.same(name + "-" + (last + 1), x.dayOf(year, month, last + 1), NONE);
                day += last;
            }
            Check.same(year + "-0", x.dayOf(year, 0, 1), NONE);
            Check.same(year + "-13", x.dayOf(year, 13, 1), NONE);
            Check.same(year + "--1", x.dayOf(year, -1, 1), NONE);
        }
        RuleCalendar x = new RuleCalendar();
        Check.same("the day before the first", x.dayOf(1999, 12, 31), NONE);
        Check.same("the day behind the last", x.dayOf(2004, 1, 1), NONE);
        for (int bad : new int[] {MIN, MAX}) {
            Check.same("year " + bad, x.dayOf(bad, 1, 1), NONE);
            Check.same("month " + bad, x.dayOf(2000, bad, 1), NONE);
            Check.same("day of the month " + bad, x.dayOf(2000, 1, bad), NONE);
        }
    }

    private static void dateOf() {
        Check.about("11: NONE for no such day or what");
        RuleCalendar x = new RuleCalendar();
        int[][] due = {{0, 20000101, 6, 199952}, {1460, 20031231, 3, 200401}};
        for (int[] day : due) {
            for (int what = 0; what < 3; what++) {
                Check.same("dateOf " + day[0] + ", " + what, x.dateOf(day[0], what), day[1 + what]);
            }
            for (int what : new int[] {-1, 3, MIN, MAX}) {
                Check.same("dateOf " + day[0] + ", " + what, x.dateOf(day[0], what), NONE);
            }
        }
        for (int day : new int[] {-1, 1461, MIN, MAX}) {
            for (int what = -1; what <= 3; what++) {
                Check.same("dateOf " + day + ", " + what, x.dateOf(day, what), NONE);
            }
        }
    }

    private static void feast() {
        Check.about("12: NONE if that is not 1900 .. 2299");
        RuleCalendar x = new RuleCalendar();
        int[][] due = {{MIN, NONE}, {-1, NONE}, {1899, NONE}, {1900, 415}, {2000, 423}, {2299, 416}, {2300, NONE},
            {MAX, NONE}};
        for (int[] year : due) {
            Check.same("feast " + year[0], x.feast(year[0]), year[1]);
        }
    }

    private static void elapsedSecond() {
        Check.about("13: of its second one if it is there twice and second is so wanted");
        RuleCalendar x = new RuleCalendar();
        x.shifts(true);
        int start = 48 * 1030 - 2;
        int[][] due = {{3, 3, 3}, {4, 4, 6}, {5, 5, 7}, {6, 8, 8}, {47, 49, 49}};
        for (int[] cell : due) {
            Check.same("the first of " + cell[0], x.elapsed(1030, cell[0], false), start + cell[1]);
            Check.same("the second of " + cell[0], x.elapsed(1030, cell[0], true), start + cell[2]);
        }
        Check.same("the day behind", x.elapsed(1031, 4, true), 48 * 1031 + 4);
        Check.same("the day before", x.elapsed(1029, 4, true), 48 * 1029 + 2);
        Check.same("a losing day", x.elapsed(820, 6, true), 48 * 820 + 4);
        Check.same("the day behind that", x.elapsed(821, 0, false), 48 * 821 - 2);
        x.shifts(false);
        Check.same("off", x.elapsed(1030, 5, true), 48 * 1030 + 5);
    }

    private static void elapsedLost() {
        Check.about("13: NONE if it is lost");
        RuleCalendar x = new RuleCalendar();
        x.shifts(true);
        int[] due = {48 * 820 + 3, NONE, NONE, 48 * 820 + 4};
        for (int n = 0; n < due.length; n++) {
            Check.same("cell " + (3 + n), x.elapsed(820, 3 + n, false), due[n]);
            Check.same("cell " + (3 + n) + ", second", x.elapsed(820, 3 + n, true), due[n]);
        }
    }

    private static void elapsedWithoutCell() {
        Check.about("13: IndexOutOfBounds");
        RuleCalendar x = new RuleCalendar();
        for (int on = 0; on < 2; on++) {
            x.shifts(on == 1);
            for (int day : new int[] {0, 85, 302, 1460}) {
                Check.noIndex("cell -1 of " + day, () -> x.elapsed(day, -1, false));
                Check.noIndex("cell 48 of " + day, () -> x.elapsed(day, 48, true));
                Check.noIndex("cell MAX of " + day, () -> x.elapsed(day, MAX, true));
            }
            Check.noIndex("day -1", () -> x.elapsed(-1, 0, false));
            Check.noIndex("day -1, cell 47", () -> x.elapsed(-1, 47, true));
            Check.noIndex("day 1461", () -> x.elapsed(1461, 0, false));
            Check.noIndex("day MIN", () -> x.elapsed(MIN, 0, false));
            Check.noIndex("neither", () -> x.elapsed(1461, 48, false));
        }
    }

    private static void clock() {
        Check.about("14: 1 more for the first, 2 for the second one of a cell that is there twice; "
                + "NONE if there is no such time");
        RuleCalendar x = new RuleCalendar();
        x.shifts(true);
        int losing = 48 * 85;
        int[][] due = {{losing - 1, 84470}, {losing, 85000}, {losing + 3, 85030}, {losing + 4, 85060},
            {losing + 45, 85470}, {losing + 46, 86000}, {losing + 47, 86010}, {losing + 48, 86020}};
        for (int[] time : due) {
            Check.same("clock of " + time[0], x.clock(time[0]), time[1]);
        }
        int doubling = 48 * 302 - 2;
        int[][] twice = {{-1, 301470}, {0, 302000}, {3, 302030}, {4, 302041}, {5, 302051}, {6, 302042}, {7, 302052},
            {8, 302060}, {48, 302460}, {49, 302470}, {50, 303000}, {51, 303010}, {54, 303040}};
        for (int[] time : twice) {
            Check.same("clock of " + (doubling + time[0]), x.clock(doubling + time[0]), time[1]);
        }
        for (int on = 0; on < 2; on++) {
            x.shifts(on == 1);
            int[][] ends = {{MIN, NONE}, {-1, NONE}, {0, 0}, {70127, 1460470}, {70128, NONE}, {MAX, NONE}};
            for (int[] time : ends) {
                Check.same("clock of " + time[0], x.clock(time[0]), time[1]);
            }
        }
    }

    /** Calendars 0 and 1 of a new object. */
    private static RuleCalendar two(String one, String other) {
        RuleCalendar x = new RuleCalendar();
        Check.compiled(x, 0, one, one.split(";").length);
        Check.compiled(x, 1, other, other.split(";").length);
        return x;
    }

    private static void compared(RuleCalendar x, int due) {
        Check.same("compare", x.compare(0, 1), due);
        Check.same("compare the other way", x.compare(1, 0), due);
    }

    private static void compareFirst() {
        Check.about("15: 100 * day + cell of the first cell with different tariffs");
        compared(two("1", "2"), 0);
        compared(two("1", "1;2@0030-0100"), 1);
        compared(two("0", "1@2330-2400"), 47);
        compared(two("0", "1W7"), 100);
        compared(two("0", "1@2330-2400D1231-1231&Y2003-2003"), 146047);
        compared(two("0", "1@2300-2330D1231-1231&Y2003-2003"), 146046);
        compared(two("8", "0"), 0);
        compared(two("3@0500-0600", "3@0530-0600"), 10);
    }

    private static void compareNone() {
        Check.about("15: NONE if there is none");
        compared(two("1", "2;1"), NONE);
        compared(two("0", "0W1"), NONE);
        compared(two("1@0000-1200;1@1200-2400", "1"), NONE);
        RuleCalendar x = Check.with("1W1", 1);
        Check.same("a calendar with itself", x.compare(0, 0), NONE);
    }

    private static void compareLost() {
        Check.about("15: the first cell (that is not lost)");
        RuleCalendar x = two("0", "1@0200-0300D0326-0326&Y2000-2000");
        compared(x, 8504);
        x.shifts(true);
        compared(x, NONE);
        RuleCalendar y = two("0", "1@0200-0330D0326-0326&Y2000-2000");
        y.shifts(true);
        compared(y, 8506);
        RuleCalendar z = two("0", "1@0130-0300D0326-0326&Y2000-2000");
        z.shifts(true);
        compared(z, 8503);
        RuleCalendar w = two("0", "1@0200-0300D0326-0326");
        w.shifts(true);
        compared(w, 45004);
        RuleCalendar v = two("0", "1@0230-0300D1029-1029&Y2000-2000");
        v.shifts(true);
        compared(v, 30205);
    }

    private static void compareStates() {
        Check.about("15: IndexOutOfBounds; IllegalState: one is not compiled");
        RuleCalendar x = Check.with("1", 1);
        Check.same("both compiled", x.compare(0, 0), NONE);
        Check.noState("the one", () -> x.compare(1, 0));
        Check.noState("the other", () -> x.compare(0, 1));
        Check.noState("both", () -> x.compare(1, 2));
        Check.noState("both, the same", () -> x.compare(2, 2));
        Check.noIndex("no one", () -> x.compare(-1, 0));
        Check.noIndex("no other", () -> x.compare(0, 3));
        Check.noIndex("no one, the other not compiled", () -> x.compare(3, 1));
        Check.noIndex("no other, the one not compiled", () -> x.compare(1, -1));
    }

    private static void insides(RuleCalendar x, boolean one, boolean other) {
        Check.same("inside", x.inside(0, 1), one);
        Check.same("inside the other way", x.inside(1, 0), other);
    }

    private static void insideAboveZero() {
        Check.about("16: Whether each cell with a tariff above 0 in the one calendar has one in the other");
        insides(two("1", "9"), true, true);
        insides(two("1", "8"), true, true);
        insides(two("0", "1"), true, false);
        insides(two("0", "0W1"), true, true);
        insides(two("1@0000-0030", "1@0000-0100"), true, false);
        insides(two("1@0000-0030", "1@0030-0100"), false, false);
        insides(two("1", "1@0030-0000"), false, true);
        insides(two("1", "1@0000-2330"), false, true);
        insides(two("1@2330-2400D1231-1231&Y2003-2003", "0"), false, true);
        insides(two("1@0000-0030D0101-0101&Y2000-2000", "0"), false, true);
        insides(two("1;0@0800-0900", "2;0@0800-0900"), true, true);
        RuleCalendar x = Check.with("1W1", 1);
        Check.same("a calendar inside itself", x.inside(0, 0), true);
    }

    private static void insideLost() {
        Check.about("16: each cell (that is not lost)");
        RuleCalendar x = two("1@0200-0300NL7&D0301-0331", "0");
        insides(x, false, true);
        x.shifts(true);
        insides(x, true, true);
        RuleCalendar y = two("1@0130-0300NL7&D0301-0331", "0");
        y.shifts(true);
        insides(y, false, true);
        RuleCalendar z = two("1@0200-0330NL7&D0301-0331", "0");
        z.shifts(true);
        insides(z, false, true);
        RuleCalendar w = two("1@0200-0300NL7&D1001-1031", "0");
        w.shifts(true);
        insides(w, false, true);
    }

    private static void insideStates() {
        Check.about("16: IndexOutOfBounds; IllegalState: one is not compiled");
        RuleCalendar x = Check.with("1", 1);
        Check.noState("the one", () -> x.inside(1, 0));
        Check.noState("the other", () -> x.inside(0, 1));
        Check.noState("both", () -> x.inside(1, 2));
        Check.noState("both, the same", () -> x.inside(2, 2));
        Check.noIndex("no one", () -> x.inside(-1, 0));
        Check.noIndex("no other", () -> x.inside(0, 3));
        Check.noIndex("no one, the other not compiled", () -> x.inside(3, 1));
        Check.noIndex("no other, the one not compiled", () -> x.inside(1, -1));
    }

    private static void deads(RuleCalendar x, int... due) {
        for (int i = 0; i < due.length; i++) {
            Check.same("dead " + i, x.dead(0, i), due[i]);
        }
        for (int i : new int[] {due.length, due.length + 1, 12, MAX, -1, MIN}) {
            Check.same("dead " + i, x.dead(0, i), NONE);
        }
    }

    private static void deadNumbers() {
        Check.about("17: The number of the rule that is the i-th (from 0) of those that decide no cell");
        deads(Check.with("1;2", 2), 1);
        deads(Check.with("1;2;3", 3), 1, 2);
        deads(Check.with("1;1@0030-0000", 2));
        deads(Check.with("1@0000-0030;1@0000-0100", 2), 1);
        deads(Check.with("1@0000-0100;1@0000-0030", 2));
        deads(Check.with("1;2W1&W2;3F+00&W1", 3), 2, 3);
        deads(Check.with("1@2330-2400D1231-1231&Y2003-2003;2@0000-2330", 2));
        deads(Check.with("1@0000-0030D0101-0101&Y2000-2000;2@0030-0000", 2));
        // A rule of tariff 0 decides too.
        deads(Check.with("1;0", 2), 1);
        deads(Check.with("0", 1));
    }

    private static void deadNotSoMany() {
        Check.about("17: NONE if there are not so many");
        deads(Check.with("1", 1));
        deads(Check.with("1W1&!W1", 1), 1);
        deads(Check.with("1;1;1;1;1;1;1;1;1;1;1;1", 12), 1, 2, 3, 4, 5, 6, 7, 8, 9, 10, 11);
        deads(Check.with("1;1;1;1;1;1;1;1;1;1;1;1C0201&C0200", 12), 1, 2, 3, 4, 5, 6, 7, 8, 9, 10, 12);
        RuleCalendar x = Check.with("1", 1);
        Check.noState("state", () -> x.dead(1, 0));
        Check.noIndex("index", () -> x.dead(3, 0));
    }

    private static void deadLost() {
        Check.about("17: decide no cell (that is not lost)");
        RuleCalendar x = Check.with("1@0200-0300NL7&D0301-0331;2@0200-0230NL7&D1001-1031", 2);
        deads(x);
        x.shifts(true);
        deads(x, 1);
        RuleCalendar y = Check.with("1@0130-0300NL7&D0301-0331;2@0200-0330NL7&D0301-0331", 2);
        y.shifts(true);
        deads(y);
        RuleCalendar z = Check.with("1@0200-0330NL7&D0301-0331;2@0300-0330", 2);
        deads(z);
        z.shifts(true);
        deads(z, 1);
    }

    private static void runsOfADay() {
        Check.about("18: Of the longest runs of cells of a day with the same tariff above 0, told from the first on");
        Check.runs(Check.with("1@0100-0200;1@0200-0300", 2), 9, new int[][] {{2, 5, 1}});
        Check.runs(Check.with("1@0100-0200;2@0200-0300", 2), 9, new int[][] {{2, 3, 1}, {4, 5, 2}});
        Check.runs(Check.with("1@0100-0300;0@0130-0200", 2), 9, new int[][] {{2, 2, 1}, {4, 5, 1}});
        Check.runs(Check.with("2@0200-0300;1@0100-0130", 2), 9, new int[][] {{2, 2, 1}, {4, 5, 2}});
        Check.runs(Check.with("1;2@1200-1230", 2), 9, new int[][] {{0, 23, 1}, {24, 24, 2}, {25, 47, 1}});
        Check.runs(Check.with("0", 1), 9, new int[][] {});
    }

    private static void runsAtTheEnds() {
        Check.about("18: runs of cells of a day");
        Check.runs(Check.with("1", 1), 9, new int[][] {{0, 47, 1}});
        Check.runs(Check.with("1@0000-0030", 1), 9, new int[][] {{0, 0, 1}});
        Check.runs(Check.with("1@2330-2400", 1), 9, new int[][] {{47, 47, 1}});
        Check.runs(Check.with("1@2330-0030", 1), 9, new int[][] {{0, 0, 1}, {47, 47, 1}});
        Check.runs(Check.with("1", 1), 0, new int[][] {{0, 47, 1}});
        Check.runs(Check.with("1", 1), 1460, new int[][] {{0, 47, 1}});
    }

    private static void lostRuns(String text, int[][] off, int[][] on) {
        RuleCalendar x = Check.with(text, text.split(";").length);
        Check.runs(x, 85, off);
        x.shifts(true);
        Check.runs(x, 85, on);
    }

    private static void runsLost() {
        Check.about("18: that are not lost, and lost ones between them don't part a run");
        lostRuns("1", new int[][] {{0, 47, 1}}, new int[][] {{0, 47, 1}});
        lostRuns("1@0200-0300", new int[][] {{4, 5, 1}}, new int[][] {});
        lostRuns("1@0130-0300", new int[][] {{3, 5, 1}}, new int[][] {{3, 3, 1}});
        lostRuns("1@0200-0330", new int[][] {{4, 6, 1}}, new int[][] {{6, 6, 1}});
        lostRuns("1@0130-0330", new int[][] {{3, 6, 1}}, new int[][] {{3, 6, 1}});
        lostRuns("1@0130-0330;0@0200-0300", new int[][] {{3, 3, 1}, {6, 6, 1}}, new int[][] {{3, 6, 1}});
        lostRuns("1@0130-0330;2@0200-0300", new int[][] {{3, 3, 1}, {4, 5, 2}, {6, 6, 1}}, new int[][] {{3, 6, 1}});
        lostRuns("1@0130-0330;2@0300-0330", new int[][] {{3, 5, 1}, {6, 6, 2}}, new int[][] {{3, 3, 1}, {6, 6, 2}});
        lostRuns("1@0130-0200;1@0400-0430", new int[][] {{3, 3, 1}, {8, 8, 1}}, new int[][] {{3, 3, 1}, {8, 8, 1}});
    }

    private static void runsDoubled() {
        Check.about("18: runs of cells: those that are there twice are told once");
        RuleCalendar x = Check.with("1@0130-0230;2@0230-0330", 2);
        x.shifts(true);
        Check.runs(x, 302, new int[][] {{3, 4, 1}, {5, 6, 2}});
        RuleCalendar y = Check.with("1@0200-0300", 1);
        y.shifts(true);
        Check.runs(y, 302, new int[][] {{4, 5, 1}});
    }

    private static void runNone() {
        Check.about("18: NONE if there is no such run or what");
        RuleCalendar x = Check.with("1@0100-0130;2@0200-0230", 2);
        for (int what : new int[] {-1, 3, MIN, MAX}) {
            for (int i : new int[] {-1, 0, 1, 2}) {
                Check.same("run " + i + ", " + what, x.run(0, 9, i, what), NONE);
            }
        }
        for (int i : new int[] {-1, 2, 3, MIN, MAX}) {
            for (int what = 0; what < 3; what++) {
                Check.same("run " + i + ", " + what, x.run(0, 9, i, what), NONE);
            }
        }
        Check.same("run 1", x.run(0, 9, 1, 2), 2);
        Check.noIndex("day -1", () -> x.run(0, -1, 0, 0));
        Check.noIndex("day 1461", () -> x.run(0, 1461, 0, 0));
        Check.noIndex("calendar 3", () -> x.run(3, 0, 0, 0));
        Check.noIndex("no day before not compiled", () -> x.run(1, 1461, 0, 0));
        Check.noState("not compiled", () -> x.run(1, 1460, 0, 0));
    }
}

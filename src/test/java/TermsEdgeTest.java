/** The boundaries that the document's terms name: a method a sentence, just inside, at and just beyond it. */
public final class TermsEdgeTest {
    private static final int NONE = RuleCalendar.NONE;
    private static final int MAX = Integer.MAX_VALUE;
    private static final int MIN = Integer.MIN_VALUE;
    private static final int[] LOSING_DAYS = {85, 449, 820, 1184};
    private static final int[] DOUBLING_DAYS = {302, 666, 1030, 1394};
    private static final int[] LONGEST_MONTHS = {31, 29, 31, 30, 31, 30, 31, 31, 30, 31, 30, 31};

    private TermsEdgeTest() {
    }

    public static void main(String[] args) {
        calls();
        days();
        daysOfYears();
        dayZero();
        cells();
        halfHours();
        weekdays();
        weeksBeginOnMondays();
        firstWeeks();
        yearsOfWeeks();
        feastYears();
        feastMonths();
        textCodes();
        textLength();
        places();
        faultIsTheFirst();
        faultIsTheLength();
        rules();
        rulesAreParted();
        tariffs();
        partsOfRules();
        spanBeginnings();
        spanEnds();
        spanMinutes();
        spanDifference();
        matchers();
        alls();
        ones();
        brackets();
        matcherDepth();
        weekdayAtoms();
        rankedWeekdayAtoms();
        rankedWeekdayDays();
        dateAtoms();
        dateDays();
        dateDaysFirstBehindSecond();
        weekAtoms();
        cycleAtoms();
        feastAtoms();
        yearAtoms();
        operators();
        coverWithoutSpanOrMatcher();
        coverOvernight();
        coverOvernightAtTheEnds();
        decided();
        lostCells();
        doubledCells();
        otherDays();
        times();
        calendars();
        compiledAtFirst();
        throwingChangesNothing();
        firstExceptionWins();
        Check.end("TermsEdgeTest");
    }

    private static void calls() {
        Check.about("An object is used for at most 512 calls");
        RuleCalendar x = new RuleCalendar();
        Check.type(x, "1W1");
        x.compile(0);
        for (int call = 5; call < 511; call++) {
            x.type((char) (call % 200));
        }
        Check.same("call 511", x.wipe(), 100);
        Check.same("call 512", x.at(0, 2, 0), 1);
    }

    private static void days() {
        Check.about("DAYS are 0 .. 1460");
        RuleCalendar x = Check.with("1", 1);
        for (int day : new int[] {-1, 1461, MIN, MAX}) {
            Check.noIndex("at of day " + day, () -> x.at(0, day, 0));
            Check.noIndex("which of day " + day, () -> x.which(0, day, 0));
            Check.noIndex("next of day " + day, () -> x.next(0, day, 0));
            Check.noIndex("elapsed of day " + day, () -> x.elapsed(day, 0, false));
            Check.noIndex("run of day " + day, () -> x.run(0, day, 0, 0));
            Check.same("dateOf day " + day, x.dateOf(day, 0), NONE);
        }
        for (int day : new int[] {0, 1, 1459, 1460}) {
            Check.same("at of day " + day, x.at(0, day, 0), 1);
            Check.same("which of day " + day, x.which(0, day, 0), 1);
            Check.same("next of day " + day, x.next(0, day, 0), NONE);
            Check.same("elapsed of day " + day, x.elapsed(day, 0, false), 48 * day);
            Check.same("run of day " + day, x.run(0, day, 0, 1), 47);
            Check.same("weekday of day " + day, x.dateOf(day, 1), (day + 5) % 7 + 1);
        }
    }

    private static void daysOfYears() {
        Check.about("the days of the years 2000 .. 2003 (2000 has 366)");
        RuleCalendar x = new RuleCalendar();
        int[][] due = {{0, 20000101}, {58, 20000228}, {59, 20000229}, {60, 20000301}, {365, 20001231},
            {366, 20010101}, {424, 20010228}, {425, 20010301}, {730, 20011231},
            {731, 20020101}, {789, 20020228}, {790, 20020301}, {1095, 20021231},
            {1096, 20030101}, {1154, 20030228}, {1155, 20030301}, {1460, 20031231}};
        for (int[] date : due) {
            Check.same("dateOf " + date[0], x.dateOf(date[0], 0), date[1]);
            Check.same("dayOf " + date[1], x.dayOf(date[1] / 10000, date[1] / 100 % 100, date[1] % 100), date[0]);
        }
    }

    private static void dayZero() {
        Check.about("day 0, the 1st of January 2000, is a Saturday");
        RuleCalendar x = Check.with("1W6", 1);
        Check.same("its date", x.dateOf(0, 0), 20000101);
        Check.same("its weekday", x.dateOf(0, 1), 6);
        Check.same("matched by W6", x.at(0, 0, 0), 1);
        Check.same("day 1 is none", x.at(0, 1, 0), 0);
        Check.same("day 7 is one again", x.at(0, 7, 0), 1);
    }

    private static void cells() {
        Check.about("A day has 48 CELLS 0 .. 47");
        RuleCalendar x = Check.with("1", 1);
        for (int cell : new int[] {-1, 48, 64, MIN, MAX}) {
            Check.noIndex("at of cell " + cell, () -> x.at(0, 9, cell));
            Check.noIndex("which of cell " + cell, () -> x.which(0, 9, cell));
            Check.noIndex("next of cell " + cell, () -> x.next(0, 9, cell));
            Check.noIndex("elapsed of cell " + cell, () -> x.elapsed(9, cell, false));
        }
        for (int cell : new int[] {0, 1, 46, 47}) {
            Check.same("at of cell " + cell, x.at(0, 9, cell), 1);
            Check.same("which of cell " + cell, x.which(0, 9, cell), 1);
            Check.same("next of cell " + cell, x.next(0, 9, cell), NONE);
            Check.same("elapsed of cell " + cell, x.elapsed(9, cell, false), 48 * 9 + cell);
        }
        Check.same("cells of a day", x.total(0, 9, 10, 1), 48);
    }

    private static void halfHours() {
        Check.about("cell 2 * h is h:00 to h:30, cell 2 * h + 1 the rest of that hour");
        for (int h = 0; h < 24; h++) {
            RuleCalendar x = Check.with(String.format("1@%02d00-%02d30", h, h), 1);
            Check.runs(x, 9, new int[][] {{2 * h, 2 * h, 1}});
            Check.compiled(x, 0, String.format("2@%02d30-%02d00", h, h + 1), 1);
            Check.runs(x, 9, new int[][] {{2 * h + 1, 2 * h + 1, 2}});
        }
    }

    private static void weekdays() {
        Check.about("WEEKDAYS are 1 (Monday) .. 7 (Sunday)");
        RuleCalendar x = new RuleCalendar();
        for (int weekday = 1; weekday <= 7; weekday++) {
            Check.same("weekday", x.dateOf(1 + weekday, 1), weekday);
            Check.same("weekday, late", x.dateOf(1450 + weekday, 1), weekday);
        }
        Check.same("Sunday before Monday", x.dateOf(1, 1), 7);
        Check.same("Monday behind Sunday", x.dateOf(9, 1), 1);
    }

    private static void weeksBeginOnMondays() {
        Check.about("WEEKS begin on Mondays");
        RuleCalendar x = new RuleCalendar();
        Check.same("Sunday", x.dateOf(15, 2), 200002);
        Check.same("Monday", x.dateOf(16, 2), 200003);
        Check.same("Sunday behind it", x.dateOf(22, 2), 200003);
        Check.same("Monday behind that", x.dateOf(23, 2), 200004);
    }

    private static void firstWeeks() {
        Check.about("week 1 of a year is that with its first Thursday");
        RuleCalendar x = new RuleCalendar();
        int[][] due = {{2000, 2}, {2001, 366}, {2002, 730}, {2003, 1094}};
        for (int[] year : due) {
            Check.same("before week 1", x.dateOf(year[1] - 1, 2), 100 * year[0] - 48);
            Check.same("its Monday", x.dateOf(year[1], 2), 100 * year[0] + 1);
            Check.same("its Sunday", x.dateOf(year[1] + 6, 2), 100 * year[0] + 1);
            Check.same("week 2", x.dateOf(year[1] + 7, 2), 100 * year[0] + 2);
        }
        Check.same("the last week of 2003", x.dateOf(1457, 2), 200352);
        Check.same("week 1 of 2004", x.dateOf(1458, 2), 200401);
    }

    private static void yearsOfWeeks() {
        Check.about("a day's week is counted in the year of its week's Thursday");
        RuleCalendar x = new RuleCalendar();
        Check.same("the 1st of January 2000", x.dateOf(0, 2), 199952);
        Check.same("the 2nd of January 2000", x.dateOf(1, 2), 199952);
        Check.same("the 31st of December 2000", x.dateOf(365, 2), 200052);
        Check.same("the 30th of December 2001", x.dateOf(729, 2), 200152);
        Check.same("the 31st of December 2001", x.dateOf(730, 2), 200201);
        Check.same("the 29th of December 2002", x.dateOf(1093, 2), 200252);
        Check.same("the 30th of December 2002", x.dateOf(1094, 2), 200301);
        Check.same("the 31st of December 2003", x.dateOf(1460, 2), 200401);
    }

    private static void feastYears() {
        Check.about("THE FEAST of a year y, 1900 .. 2299");
        RuleCalendar x = new RuleCalendar();
        int[][] due = {{1899, NONE}, {1900, 415}, {1901, 407}, {2298, 403}, {2299, 416}, {2300, NONE},
            {0, NONE}, {-1900, NONE}, {MIN, NONE}, {MAX, NONE}};
        for (int[] year : due) {
            Check.same("feast " + year[0], x.feast(year[0]), year[1]);
        }
    }

    private static void feastMonths() {
        Check.about("month s / 31, day of the month s % 31 + 1");
        RuleCalendar x = new RuleCalendar();
        int[][] due = {{2285, 322}, {2008, 323}, {2002, 331}, {2024, 331}, {2018, 401}, {1923, 401},
            {2011, 424}, {1943, 425}, {2038, 425}, {1954, 418}, {1981, 419}, {2049, 418}, {2076, 419},
            {1999, 404}, {2000, 423}, {2099, 412}, {2100, 328}, {2106, 418}, {2133, 419}, {2199, 414}, {2200, 406}};
        for (int[] year : due) {
            Check.same("feast " + year[0], x.feast(year[0]), year[1]);
        }
    }

    private static void textCodes() {
        Check.about("characters with codes 32 .. 126");
        RuleCalendar x = new RuleCalendar();
        int typed = 0;
        for (char c = 0; c < 300; c++) {
            boolean due = c >= 32 && c <= 126;
            Check.same("type of code " + (int) c, x.type(c), due);
            typed += due ? 1 : 0;
        }
        Check.same("type of code 32 + 256", x.type((char) 288), false);
        Check.same("type of code 65535", x.type((char) 65535), false);
        Check.same("wipe", x.wipe(), typed);
    }

    /** Rules of so many characters. */
    private static String rulesOf(int length) {
        return "1" + "!".repeat(length - 3) + "W6";
    }

    private static void textLength() {
        Check.about("The TEXT has at most 100 characters");
        RuleCalendar x = new RuleCalendar();
        Check.type(x, rulesOf(99));
        Check.same("type of the 100th", x.type('7'), true);
        Check.same("type of the 101st", x.type('x'), false);
        Check.same("type of the 101st again", x.type('1'), false);
        Check.same("compile of 100", x.compile(0), 1);
        Check.same("no text is left", x.wipe(), 0);
        Check.same("96 times not W67 is W67: Saturday", x.at(0, 0, 0), 1);
        Check.same("Sunday", x.at(0, 1, 0), 1);
        Check.same("Monday", x.at(0, 2, 0), 0);
    }

    private static void places() {
        Check.about("places count from 0");
        Check.fault("x", 0);
        Check.fault("1x", 1);
        Check.fault(rulesOf(98) + "x", 98);
        Check.fault(rulesOf(98) + "7x", 99);
        Check.fault(rulesOf(98) + "|N", 100);
    }

    private static void faultIsTheFirst() {
        Check.about("the place of the first character with which the text is not the beginning of any text of RULES");
        Check.fault("1xx", 1);
        Check.fault("x1", 0);
        Check.fault("1W8;x", 2);
        Check.fault("1W1;2W1;3w1", 9);
        // The character is good by itself, but no rules begin with all of the text.
        Check.fault("1@0830-0830W1", 9);
        Check.fault("1D0230-0301", 4);
        Check.fault("1C1010", 4);
        Check.fault("1Y2003-2000", 10);
        Check.fault("1@2400-0000", 3);
        Check.fault(" 1", 0);
        Check.fault("1 W1", 1);
        Check.fault("1W1 ", 3);
    }

    private static void faultIsTheLength() {
        Check.about("its length when there is none, but the text is none");
        String[] beginnings = {"", "1;", "1@", "1@0", "1@08", "1@080", "1@0800", "1@0800-", "1@0800-1", "1@0800-10",
            "1@0800-103", "1W", "1N", "1NL", "1D", "1D1", "1D12", "1D123", "1D1231", "1D1231-", "1D1231-0",
            "1D1231-01", "1D1231-010", "1P", "1C", "1C9", "1C99", "1C999", "1F", "1F+", "1F-", "1F-9", "1Y", "1Y2",
            "1Y20", "1Y200", "1Y2003", "1Y2003-", "1Y2003-2", "1Y2003-20", "1Y2003-200", "1!", "1(", "1(W1", "1(W1|",
            "1(W1)&", "1W1|", "1W1&", "1W1&!", "1;2;3;"};
        for (String text : beginnings) {
            Check.fault(text, text.length());
        }
    }

    private static void rules() {
        Check.about("RULES are one to twelve rules");
        Check.fault("", 0);
        Check.with("1", 1);
        Check.with("1;2", 2);
        Check.with("1;2;3;4;5;6;7;8;9;0;1", 11);
        RuleCalendar x = Check.with("1;2;3;4;5;6;7;8;9;0;1;2", 12);
        Check.same("the twelfth decides", x.which(0, 0, 0), 12);
        Check.fault("1;2;3;4;5;6;7;8;9;0;1;2;", 23);
        Check.fault("1;2;3;4;5;6;7;8;9;0;1;2;3", 23);
        Check.fault("1W1;2;3;4;5;6;7;8;9;0;1;2@0000-0030;3", 35);
    }

    private static void rulesAreParted() {
        Check.about("rules with ; between");
        Check.fault(";", 0);
        Check.fault(";1", 0);
        Check.fault("1;;", 2);
        Check.fault("1;2;;", 4);
        Check.fault("1;", 2);
        Check.fault("1;2;", 4);
        Check.fault("1:2", 1);
        Check.fault("1W12W1", 4);
        Check.with("1W1;2W1", 2);
    }

    private static void tariffs() {
        Check.about("A rule is a digit, its TARIFF");
        for (int tariff = 0; tariff <= 9; tariff++) {
            RuleCalendar x = Check.with("" + tariff, 1);
            Check.same("at with " + tariff, x.at(0, 7, 7), tariff);
            Check.same("which with " + tariff, x.which(0, 7, 7), 1);
        }
        Check.fault("/", 0);
        Check.fault(":", 0);
        Check.fault("10", 1);
        Check.fault("W1", 0);
        Check.fault("@0000-0030", 0);
        Check.fault("1;W1", 2);
    }

    private static void partsOfRules() {
        Check.about("then, if one wants, @ and a SPAN; then, if one wants, a MATCHER");
        Check.with("1", 1);
        Check.with("1@0000-0030", 1);
        Check.with("1W1", 1);
        Check.with("1@0000-0030W1", 1);
        Check.fault("1@W1", 2);
        Check.fault("1@;", 2);
        Check.fault("1W1@0000-0030", 3);
        Check.fault("1@0000-0030@0000-0030", 11);
        Check.fault("10000-0030", 1);
        Check.fault("1@0000-0030&W1", 11);
    }

    private static void spanBeginnings() {
        Check.about("from 0000 .. 2330");
        Check.runs(Check.with("1@0000-0100", 1), 9, new int[][] {{0, 1, 1}});
        Check.runs(Check.with("1@0030-0100", 1), 9, new int[][] {{1, 1, 1}});
        Check.runs(Check.with("1@2300-2400", 1), 9, new int[][] {{46, 47, 1}});
        Check.runs(Check.with("1@2330-2400", 1), 9, new int[][] {{47, 47, 1}});
        Check.fault("1@2400-0000", 3);
        Check.fault("1@2500-0000", 3);
        Check.fault("1@3000-0000", 2);
        Check.fault("1@-0000", 2);
        Check.fault("1@000-0000", 5);
        Check.fault("1@00000-0030", 6);
        Check.fault("1@0000;", 6);
    }

    private static void spanEnds() {
        Check.about("to 0000 .. 2400");
        Check.runs(Check.with("1@2200-0000", 1), 9, new int[][] {{44, 47, 1}});
        Check.runs(Check.with("1@0000-0030", 1), 9, new int[][] {{0, 0, 1}});
        Check.runs(Check.with("1@2200-2330", 1), 9, new int[][] {{44, 46, 1}});
        Check.runs(Check.with("1@2200-2400", 1), 9, new int[][] {{44, 47, 1}});
        Check.fault("1@2200-2430", 9);
        Check.fault("1@2200-2401", 10);
        Check.fault("1@2200-2500", 8);
        Check.fault("1@2200-3000", 7);
        Check.fault("1@2200-000;", 10);
        Check.fault("1@2200-00000", 11);
    }

    private static void spanMinutes() {
        Check.about("mm being 00 or 30");
        int[][] minutes = {{1, 1}, {5, 1}, {10, 0}, {15, 0}, {20, 0}, {29, 0}, {31, 1}, {35, 1}, {40, 0}, {45, 0},
            {59, 0}, {60, 0}, {90, 0}, {99, 0}};
        for (int[] minute : minutes) {
            Check.fault(String.format("1@08%02d-1200", minute[0]), 4 + minute[1]);
            Check.fault(String.format("1@0800-12%02d", minute[0]), 9 + minute[1]);
        }
        Check.with("1@0800-1200", 1);
        Check.with("1@0830-1230", 1);
        Check.with("1@0800-1230", 1);
        Check.with("1@0830-1200", 1);
    }

    private static String halfHour(int cell) {
        return String.format("%02d%02d", cell / 2, cell % 2 * 30);
    }

    private static void spanDifference() {
        Check.about("both different");
        for (int from : new int[] {0, 1, 16, 17, 46, 47}) {
            String begun = "1@" + halfHour(from) + "-";
            Check.fault(begun + halfHour(from), 9);
            Check.with(begun + halfHour(from + 1), 1);
            Check.with(begun + halfHour(from == 0 ? 47 : from - 1), 1);
        }
        RuleCalendar x = Check.with("1@0000-2400", 1);
        Check.same("0000 and 2400 are different: all cells", x.total(0, 0, 1461, 1), 1461 * 48);
    }

    private static void matchers() {
        Check.about("A matcher is one or more ALLS with | between");
        Check.matched("W1", 0, 7, 2);
        Check.matched("W1|W2", 0, 7, 2, 3);
        Check.matched("W1|W2|W3", 0, 7, 2, 3, 4);
        Check.fault("1|W1", 1);
        Check.fault("1W1||W2", 4);
        Check.fault("1W1|;", 4);
        Check.fault("1W1|&W2", 4);
    }

    private static void alls() {
        Check.about("an all is one or more ONES with & between");
        Check.matched("W12&W23", 0, 7, 3);
        Check.matched("W123&W234&W345", 0, 7, 4);
        Check.fault("1&W1", 1);
        Check.fault("1W1&&W2", 4);
        Check.fault("1W1&;", 4);
        Check.fault("1W1&|W2", 4);
        Check.fault("1W1&)", 4);
    }

    private static void ones() {
        Check.about("a one is ! and a one");
        Check.matched("!W12345", 0, 7, 0, 1);
        Check.matched("!!W67", 0, 7, 0, 1);
        Check.matched("!!!W12345", 0, 7, 0, 1);
        Check.fault("1!;", 2);
        Check.fault("1!!", 3);
        Check.fault("1!&W1", 2);
        Check.fault("1!|W1", 2);
        Check.fault("1!)", 2);
        Check.fault("1W1!", 3);
    }

    private static void brackets() {
        Check.about("( a matcher )");
        Check.matched("(W1)", 0, 7, 2);
        Check.matched("!(W12345)", 0, 7, 0, 1);
        Check.fault("1()", 2);
        Check.fault("1(;", 2);
        Check.fault("1(1)", 2);
        Check.fault("1(@0000-0030)", 2);
        Check.fault("1(W1;", 4);
        Check.fault("1(W1))", 5);
        Check.fault("1W1)", 3);
        Check.fault("1)", 1);
        Check.fault("1(W1)W2", 5);
        Check.fault("1(W1)(W2)", 5);
        Check.fault("1W1(W2)", 3);
        Check.fault("1(W1)!", 5);
    }

    private static void matcherDepth() {
        Check.about("Matchers lie in one another at most 4 deep");
        Check.matched("W1", 0, 7, 2);
        Check.matched("(W1)", 0, 7, 2);
        Check.matched("((W1))", 0, 7, 2);
        Check.matched("(((W1)))", 0, 7, 2);
        Check.fault("1((((W1))))", 4);
        Check.fault("1((((", 4);
        Check.fault("1!(!(!(!(W1))))", 8);
        Check.fault("1W1&(W1&(W1&(W1&(W1))))", 16);
        Check.matched("(((W1)))|(((W2)))", 0, 7, 2, 3);
        Check.matched("(((W1)|(W2))|((W3)))", 0, 7, 2, 3, 4);
        Check.fault("1(((W1)))|((((W2))))", 13);
        Check.with("1(((W1)));2(((W2)))", 2);
    }

    private static void weekdayAtoms() {
        Check.about("W and one or more digits 1 .. 7, each greater than the one before");
        Check.fault("1W;", 2);
        Check.fault("1W0", 2);
        Check.fault("1W8", 2);
        Check.fault("1W9", 2);
        Check.fault("1W10", 3);
        Check.fault("1W18", 3);
        Check.fault("1W11", 3);
        Check.fault("1W21", 3);
        Check.fault("1W77", 3);
        Check.fault("1W132", 4);
        Check.fault("1W12345678", 9);
        Check.fault("1W12345677", 9);
        Check.matched("W1", 0, 14, 2, 9);
        Check.matched("W7", 0, 14, 1, 8);
        Check.matched("W17", 0, 14, 1, 2, 8, 9);
        Check.matched("W1234567", 0, 3, 0, 1, 2);
    }

    private static void rankedWeekdayAtoms() {
        Check.about("N, one of 1 2 3 4 5 L, a digit 1 .. 7");
        for (String rank : new String[] {"1", "2", "3", "4", "5", "L"}) {
            Check.with("1N" + rank + "1", 1);
            Check.with("1N" + rank + "7", 1);
            Check.fault("1N" + rank + "0", 3);
            Check.fault("1N" + rank + "8", 3);
            Check.fault("1N" + rank + ";", 3);
            Check.fault("1N" + rank + "11", 4);
        }
        Check.fault("1N01", 2);
        Check.fault("1N61", 2);
        Check.fault("1Nl1", 2);
        Check.fault("1NK1", 2);
        Check.fault("1NM1", 2);
    }

    private static void rankedWeekdayDays() {
        Check.about("the first .. fifth or last such weekday of a month");
        // January 2000 has its Fridays on the 7th, 14th, 21st, 28th, its Saturdays on the 1st, 8th, .. 29th.
        int[] fridays = {6, 13, 20, 27};
        for (int rank = 1; rank <= 5; rank++) {
            Check.matched("N" + rank + "6", 0, 31, 7 * rank - 7);
        }
        for (int rank = 1; rank <= 4; rank++) {
            Check.matched("N" + rank + "5", 0, 31, fridays[rank - 1]);
        }
        Check.matched("N55", 0, 31);
        Check.matched("NL5", 0, 31, 27);
        Check.matched("NL6", 0, 31, 28);
        Check.matched("NL1", 0, 31, 30);
        Check.matched("NL2", 0, 31, 24);
        // February has a 29th in 2000 alone, a Tuesday; April 2000 ends with a Sunday, 2003 with a Wednesday.
        Check.matched("N52", 31, 60, 59);
        Check.matched("NL2", 31, 60, 59);
        Check.matched("NL3", 31, 60, 53);
        Check.matched("N51|N52|N53|N54|N55|N56|N57", 397, 425);
        Check.matched("NL3", 397, 425, 424);
        Check.matched("NL4", 397, 425, 418);
        Check.matched("NL7", 91, 121, 120);
        Check.matched("NL1", 91, 121, 114);
        Check.matched("NL3", 1430, 1461, 1460);
        Check.matched("NL4", 1430, 1461, 1454);
    }

    private static void dateAtoms() {
        Check.about("D and mmdd-mmdd, both days of a month of some year");
        for (int month = 1; month <= 12; month++) {
            int last = LONGEST_MONTHS[month - 1];
            // No day of February begins with a 3.
            int place = month == 2 ? 0 : 1;
            Check.with(String.format("1D%02d01-%02d%02d", month, month, last), 1);
            Check.fault(String.format("1D%02d00-0101", month), 5);
            Check.fault(String.format("1D0101-%02d00", month), 10);
            Check.fault(String.format("1D%02d%02d-0101", month, last + 1), 4 + place);
            Check.fault(String.format("1D0101-%02d%02d", month, last + 1), 9 + place);
            Check.fault(String.format("1D%02d40", month), 4);
        }
        Check.fault("1D0001-0101", 3);
        Check.fault("1D1301-0101", 3);
        Check.fault("1D2001-0101", 2);
        Check.fault("1D0101-0001", 8);
        Check.fault("1D0101-1301", 8);
        Check.fault("1D0101-2001", 7);
        Check.fault("1D0101;", 6);
        Check.fault("1D0101-0101-", 11);
        Check.fault("1D01010", 6);
    }

    private static void dateDays() {
        Check.about("those from the first to the second day of a year");
        Check.matched("D0302-0304", 0, 1461, 61, 62, 63, 426, 427, 428, 791, 792, 793, 1156, 1157, 1158);
        Check.matched("D0101-0101", 0, 1461, 0, 366, 731, 1096);
        Check.matched("D1231-1231", 0, 1461, 365, 730, 1095, 1460);
        Check.matched("D0228-0301", 0, 1461, 58, 59, 60, 424, 425, 789, 790, 1154, 1155);
        Check.matched("D0229-0229", 0, 1461, 59);
        Check.matched("D0229-0301", 0, 1461, 59, 60, 425, 790, 1155);
        Check.matched("D0131-0201", 0, 1461, 30, 31, 396, 397, 761, 762, 1126, 1127);
        Check.same("the whole year", Check.with("1D0101-1231", 1).total(0, 0, 1461, 1), 1461 * 48);
    }

    private static void dateDaysFirstBehindSecond() {
        Check.about("when the first is behind the second, all others but those between them (each year for itself)");
        Check.matched("D1231-0101", 0, 1461, 0, 365, 366, 730, 731, 1095, 1096, 1460);
        Check.matched("!D0105-0101", 0, 1461, 1, 2, 3, 367, 368, 369, 732, 733, 734, 1097, 1098, 1099);
        Check.matched("!D0301-0228", 0, 1461, 59);
        Check.matched("!D0302-0228", 0, 1461, 59, 60, 425, 790, 1155);
        Check.matched("!D0102-0101", 0, 1461);
        Check.matched("!D0229-0228", 0, 1461);
        Check.matched("!D1231-1229", 0, 1461, 364, 729, 1094, 1459);
    }

    private static void weekAtoms() {
        Check.about("P0, P1: days in weeks of even, of odd number");
        Check.fault("1P2", 2);
        Check.fault("1P/", 2);
        Check.fault("1P;", 2);
        Check.fault("1P00", 3);
        Check.fault("1P11", 3);
        Check.matched("P0", 0, 10, 0, 1, 9);
        Check.matched("P1", 0, 10, 2, 3, 4, 5, 6, 7, 8);
        Check.matched("P0", 364, 374, 364, 365, 373);
        Check.matched("P1", 729, 731, 730);
        Check.matched("P0", 1093, 1095, 1093);
        Check.matched("P1", 1457, 1461, 1458, 1459, 1460);
    }

    private static void cycleAtoms() {
        Check.about("C and four digits kkdd, kk from 01, dd less than kk: days n with n % kk = dd");
        Check.fault("1C00", 3);
        Check.fault("1C0101", 5);
        Check.fault("1C0202", 5);
        Check.fault("1C0909", 5);
        Check.fault("1C0910", 4);
        Check.fault("1C1010", 4);
        Check.fault("1C1111", 5);
        Check.fault("1C9999", 5);
        Check.fault("1C01;", 4);
        Check.fault("1C01000", 6);
        Check.same("C0100", Check.with("1C0100", 1).total(0, 0, 1461, 1), 1461 * 48);
        Check.matched("C0200", 0, 5, 0, 2, 4);
        Check.matched("C0201", 0, 5, 1, 3);
        Check.matched("C1009", 0, 30, 9, 19, 29);
        Check.matched("C1110", 0, 33, 10, 21, 32);
        Check.matched("C9900", 0, 199, 0, 99, 198);
        Check.matched("C9998", 0, 198, 98, 197);
        Check.matched("C7359", 1380, 1461, 1446);
        // 1461 is 20 * 73 + 1, and day 1460 the last.
        Check.matched("C7300", 1388, 1461, 1460);
    }

    private static void feastAtoms() {
        Check.about("F, + or -, and two digits: so many days behind or before the feast of their own year");
        Check.fault("1F00", 2);
        Check.fault("1F*00", 2);
        Check.fault("1F,00", 2);
        Check.fault("1F.00", 2);
        Check.fault("1F+;", 3);
        Check.fault("1F+0;", 4);
        Check.fault("1F+000", 5);
        Check.fault("1F++00", 3);
        Check.fault("1F+/", 3);
        Check.fault("1F-:", 3);
        Check.matched("F+00", 0, 1461, 113, 470, 820, 1205);
        Check.matched("F-00", 0, 1461, 113, 470, 820, 1205);
        Check.matched("F+01", 0, 1461, 114, 471, 821, 1206);
        Check.matched("F-01", 0, 1461, 112, 469, 819, 1204);
        Check.matched("F+99", 0, 1461, 212, 569, 919, 1304);
        // The feast of 2002 is the 90th day of its year.
        Check.matched("F-89", 0, 1461, 24, 381, 731, 1116);
        Check.matched("F-90", 0, 1461, 23, 380, 1115);
        Check.matched("F-99", 0, 1461, 14, 371, 1106);
    }

    private static void yearAtoms() {
        Check.about("Y and yyyy-yyyy, years 2000 .. 2003, the second not before the first");
        Check.fault("1Y1999", 2);
        Check.fault("1Y2004", 5);
        Check.fault("1Y2010", 4);
        Check.fault("1Y2100", 3);
        Check.fault("1Y3000", 2);
        Check.fault("1Y2000-1999", 7);
        Check.fault("1Y2000-2004", 10);
        Check.fault("1Y2001-2000", 10);
        Check.fault("1Y2003-2002", 10);
        Check.fault("1Y2000;", 6);
        Check.fault("1Y2000-20000", 11);
        int[] firstDays = {0, 366, 731, 1096, 1461};
        for (int first = 0; first < 4; first++) {
            for (int second = first; second < 4; second++) {
                RuleCalendar x = Check.with("1Y200" + first + "-200" + second, 1);
                int from = firstDays[first];
                int to = firstDays[second + 1];
                Check.same("all of its days", x.total(0, from, to, 1), 48 * (to - from));
                Check.same("no other days", x.total(0, 0, 1461, 1), 48 * (to - from));
            }
        }
    }

    private static void operators() {
        Check.about("Otherwise ! & | as usual");
        Check.matched("W67&W17", 0, 7, 1);
        Check.matched("W67|W17", 0, 7, 0, 1, 2);
        Check.matched("!W67&!W17", 0, 7, 3, 4, 5, 6);
        Check.matched("!(W67&W17)", 0, 7, 0, 2, 3, 4, 5, 6);
        Check.matched("!W67|W7", 0, 7, 1, 2, 3, 4, 5, 6);
        Check.matched("W1|W67&W7", 0, 7, 1, 2);
        Check.matched("W7&W67|W1", 0, 7, 1, 2);
        Check.matched("(W1|W67)&W7", 0, 7, 1);
        Check.matched("!W1&W12", 0, 7, 3);
        Check.matched("!(W1|W12)&W123", 0, 7, 4);
        Check.matched("W1&!W1", 0, 1461);
        Check.matched("W1|!W1", 0, 2, 0, 1);
    }

    private static void coverWithoutSpanOrMatcher() {
        Check.about("without one: on all days; without a span: all cells");
        Check.same("neither", Check.with("1", 1).total(0, 0, 1461, 1), 1461 * 48);
        RuleCalendar x = Check.with("1@0800-0830", 1);
        Check.same("a span alone", x.total(0, 0, 1461, 1), 1461);
        Check.runs(x, 0, new int[][] {{16, 16, 1}});
        Check.runs(x, 1460, new int[][] {{16, 16, 1}});
        RuleCalendar y = Check.with("1W6", 1);
        Check.runs(y, 0, new int[][] {{0, 47, 1}});
        Check.runs(y, 1, new int[][] {});
        RuleCalendar z = Check.with("1@0800-0830W6", 1);
        Check.runs(z, 0, new int[][] {{16, 16, 1}});
        Check.runs(z, 1, new int[][] {});
    }

    private static void coverOvernight() {
        Check.about("If the span's end is before its beginning, it covers the cells from its beginning on, "
                + "and those before its end of the day behind it");
        RuleCalendar x = Check.with("1@2230-0130W6", 1);
        Check.runs(x, 6, new int[][] {});
        Check.runs(x, 7, new int[][] {{45, 47, 1}});
        Check.runs(x, 8, new int[][] {{0, 2, 1}});
        Check.runs(x, 9, new int[][] {});
        RuleCalendar y = Check.with("1@1200-1130W67", 1);
        Check.runs(y, 7, new int[][] {{24, 47, 1}});
        Check.runs(y, 8, new int[][] {{0, 22, 1}, {24, 47, 1}});
        Check.runs(y, 9, new int[][] {{0, 22, 1}});
        RuleCalendar z = Check.with("1@2330-0000W6;2@2330-0030Y2000-2001;3@0000-0030W1", 3);
        Check.runs(z, 729, new int[][] {{0, 0, 2}, {47, 47, 2}});
        Check.runs(z, 731, new int[][] {{0, 0, 2}});
        Check.runs(z, 732, new int[][] {});
        Check.runs(z, 735, new int[][] {{47, 47, 1}});
        Check.runs(z, 736, new int[][] {});
        Check.runs(z, 737, new int[][] {{0, 0, 3}});
        Check.runs(Check.with("1@0030-0000W6", 1), 7, new int[][] {{1, 47, 1}});
        Check.runs(Check.with("1@0030-0000W6", 1), 8, new int[][] {});
        Check.runs(Check.with("1@2330-2300W6", 1), 8, new int[][] {{0, 45, 1}});
    }

    private static void coverOvernightAtTheEnds() {
        Check.about("cells of a day that is matched, and of the day behind it: no day is before day 0 or behind 1460");
        RuleCalendar x = Check.with("1@2330-2300", 1);
        Check.runs(x, 0, new int[][] {{47, 47, 1}});
        Check.runs(x, 1, new int[][] {{0, 45, 1}, {47, 47, 1}});
        Check.runs(x, 1460, new int[][] {{0, 45, 1}, {47, 47, 1}});
        RuleCalendar y = Check.with("1@2330-2300D1231-1231", 1);
        Check.same("the last day has no day behind it", y.total(0, 0, 1461, 1), 3 * 47 + 1);
        Check.same("nor has day 0 one before it", y.total(0, 0, 365, 1), 0);
    }

    private static void decided() {
        Check.about("A cell is DECIDED by the last rule that covers it; "
                + "its tariff is that rule's, 0 if none covers it");
        RuleCalendar x = Check.with("5@0000-0200;6@0030-0130;0@0100-0130;6@0100-0130W6", 4);
        int[][] due = {{5, 1}, {6, 2}, {0, 3}, {5, 1}, {0, 0}};
        for (int cell = 0; cell < due.length; cell++) {
            Check.same("at of cell " + cell, x.at(0, 1, cell), due[cell][0]);
            Check.same("which of cell " + cell, x.which(0, 1, cell), due[cell][1]);
        }
        Check.same("at on Saturday", x.at(0, 0, 2), 6);
        Check.same("which on Saturday", x.which(0, 0, 2), 4);
    }

    private static void lostCells() {
        Check.about("on the last Sunday of March of each year the cells 4 and 5 are LOST");
        RuleCalendar x = Check.with("1", 1);
        x.shifts(true);
        for (int day : LOSING_DAYS) {
            Check.same("cell 3", x.at(0, day, 3), 1);
            Check.same("cell 4", x.at(0, day, 4), NONE);
            Check.same("cell 5", x.at(0, day, 5), NONE);
            Check.same("cell 6", x.at(0, day, 6), 1);
            Check.same("which of cell 4", x.which(0, day, 4), NONE);
            Check.same("next of cell 5", x.next(0, day, 5), NONE);
            Check.same("elapsed of cell 3", x.elapsed(day, 3, false), 48 * day + 3);
            Check.same("elapsed of cell 4", x.elapsed(day, 4, false), NONE);
            Check.same("elapsed of cell 5", x.elapsed(day, 5, true), NONE);
            Check.same("elapsed of cell 6", x.elapsed(day, 6, false), 48 * day + 4);
            Check.same("times", x.total(0, day, day + 1, 1), 46);
        }
        x.shifts(false);
        for (int day : LOSING_DAYS) {
            Check.same("cell 4, off", x.at(0, day, 4), 1);
            Check.same("times, off", x.total(0, day, day + 1, 1), 48);
        }
    }

    private static void doubledCells() {
        Check.about("on the last Sunday of October they are there TWICE: 4, 5, 4, 5");
        RuleCalendar x = Check.with("1", 1);
        x.shifts(true);
        for (int day : DOUBLING_DAYS) {
            int start = 48 * day - 2;
            int[] told = {30, 41, 51, 42, 52, 60};
            for (int n = 0; n < told.length; n++) {
                Check.same("clock", x.clock(start + 3 + n), 1000 * day + told[n]);
                boolean second = told[n] % 10 == 2;
                Check.same("elapsed", x.elapsed(day, told[n] / 10, second), start + 3 + n);
            }
            Check.same("cell 3 is there once", x.elapsed(day, 3, true), start + 3);
            Check.same("cell 6 is there once", x.elapsed(day, 6, true), start + 8);
            Check.same("times", x.total(0, day, day + 1, 1), 50);
        }
        x.shifts(false);
        for (int day : DOUBLING_DAYS) {
            Check.same("no second, off", x.elapsed(day, 4, true), 48 * day + 4);
            Check.same("clock, off", x.clock(48 * day + 4), 1000 * day + 40);
            Check.same("times, off", x.total(0, day, day + 1, 1), 48);
        }
    }

    private static boolean has(int[] days, int day) {
        for (int one : days) {
            if (one == day) {
                return true;
            }
        }
        return false;
    }

    private static void otherDays() {
        Check.about("Otherwise each day has its cells once");
        RuleCalendar x = null;
        for (int day = 0; day < 1461; day++) {
            if (day % 400 == 0) {
                x = Check.with("1", 1);
                x.shifts(true);
            }
            int due = has(LOSING_DAYS, day) ? 46 : has(DOUBLING_DAYS, day) ? 50 : 48;
            Check.same("times of day " + day, x.total(0, day, day + 1, 1), due);
        }
    }

    private static void times() {
        Check.about("TIMES count what there is from cell 0 of day 0 on: time 0, 1, ..");
        RuleCalendar x = new RuleCalendar();
        for (int on = 0; on < 2; on++) {
            x.shifts(on == 1);
            Check.same("clock of -1", x.clock(-1), NONE);
            Check.same("clock of 0", x.clock(0), 0);
            Check.same("clock of 1", x.clock(1), 10);
            Check.same("clock of 48", x.clock(48), 1000);
            Check.same("clock of 70127", x.clock(70127), 1460470);
            Check.same("clock of 70128", x.clock(70128), NONE);
            Check.same("clock of 70129", x.clock(70129), NONE);
            Check.same("clock of MIN", x.clock(MIN), NONE);
            Check.same("clock of MAX", x.clock(MAX), NONE);
            Check.same("elapsed of the first", x.elapsed(0, 0, true), 0);
            Check.same("elapsed of the last", x.elapsed(1460, 47, true), 70127);
        }
    }

    private static void calendars() {
        Check.about("There are CALENDARS 0 .. 2");
        RuleCalendar x = new RuleCalendar();
        for (int calendar = 0; calendar < 3; calendar++) {
            Check.compiled(x, calendar, "" + (calendar + 1), 1);
        }
        for (int calendar = 0; calendar < 3; calendar++) {
            Check.same("at of " + calendar, x.at(calendar, 0, 0), calendar + 1);
            Check.same("which of " + calendar, x.which(calendar, 0, 0), 1);
            Check.same("next of " + calendar, x.next(calendar, 0, 0), NONE);
            Check.same("total of " + calendar, x.total(calendar, 0, 1, calendar + 1), 48);
            Check.same("compare of " + calendar, x.compare(calendar, (calendar + 1) % 3), 0);
            Check.same("inside of " + calendar, x.inside(calendar, (calendar + 1) % 3), true);
            Check.same("dead of " + calendar, x.dead(calendar, 0), NONE);
            Check.same("run of " + calendar, x.run(calendar, 0, 0, 2), calendar + 1);
        }
        for (int calendar : new int[] {-1, 3, MIN, MAX}) {
            Check.noIndex("compile of " + calendar, () -> x.compile(calendar));
            Check.noIndex("at of " + calendar, () -> x.at(calendar, 0, 0));
            Check.noIndex("which of " + calendar, () -> x.which(calendar, 0, 0));
            Check.noIndex("next of " + calendar, () -> x.next(calendar, 0, 0));
            Check.noIndex("total of " + calendar, () -> x.total(calendar, 0, 1, 0));
            Check.noIndex("compare of " + calendar, () -> x.compare(calendar, 0));
            Check.noIndex("compare with " + calendar, () -> x.compare(0, calendar));
            Check.noIndex("inside of " + calendar, () -> x.inside(calendar, 0));
            Check.noIndex("inside with " + calendar, () -> x.inside(0, calendar));
            Check.noIndex("dead of " + calendar, () -> x.dead(calendar, 0));
            Check.noIndex("run of " + calendar, () -> x.run(calendar, 0, 0, 0));
        }
    }

    private static void compiledAtFirst() {
        Check.about("at first they are not compiled, and shifts are off");
        RuleCalendar x = new RuleCalendar();
        Check.same("nothing is lost", x.elapsed(85, 4, false), 85 * 48 + 4);
        Check.same("nothing is there twice", x.elapsed(302, 4, true), 302 * 48 + 4);
        for (int calendar = 0; calendar < 3; calendar++) {
            stateless(x, calendar);
        }
        Check.compiled(x, 1, "1", 1);
        stateless(x, 0);
        stateless(x, 2);
    }

    /** Each call that wants a compiled calendar refuses this one, which is not. */
    private static void stateless(RuleCalendar x, int calendar) {
        Check.noState("at", () -> x.at(calendar, 0, 0));
        Check.noState("which", () -> x.which(calendar, 0, 0));
        Check.noState("next", () -> x.next(calendar, 0, 0));
        Check.noState("total", () -> x.total(calendar, 0, 1461, 0));
        Check.noState("compare with itself", () -> x.compare(calendar, calendar));
        Check.noState("inside itself", () -> x.inside(calendar, calendar));
        Check.noState("dead", () -> x.dead(calendar, 0));
        Check.noState("run", () -> x.run(calendar, 0, 0, 0));
    }

    private static void throwingChangesNothing() {
        Check.about("A call that throws changes nothing");
        RuleCalendar x = Check.with("4@0000-1200;5", 2);
        x.shifts(true);
        Check.type(x, "6;");
        for (int bad : new int[] {-1, 3}) {
            Check.noIndex("compile", () -> x.compile(bad));
            Check.noIndex("at", () -> x.at(bad, 0, 0));
            Check.noIndex("which", () -> x.which(bad, 0, 0));
            Check.noIndex("next", () -> x.next(bad, 0, 0));
            Check.noIndex("total", () -> x.total(0, bad, bad - 1, 0));
            Check.noIndex("elapsed", () -> x.elapsed(2000, bad, false));
            Check.noIndex("compare", () -> x.compare(0, bad));
            Check.noIndex("inside", () -> x.inside(0, bad));
            Check.noIndex("dead", () -> x.dead(bad, 0));
            Check.noIndex("run", () -> x.run(bad, 0, 0, 0));
        }
        stateless(x, 1);
        stateless(x, 2);
        Check.noState("compare", () -> x.compare(0, 1));
        Check.noState("inside", () -> x.inside(1, 0));
        Check.same("the calendar is as it was", x.total(0, 0, 1461, 5), 1461 * 48);
        Check.same("its rules are as they were", x.dead(0, 0), 1);
        Check.same("it has no more dead rules", x.dead(0, 1), NONE);
        Check.same("shifts are on", x.at(0, 85, 4), NONE);
        stateless(x, 1);
        stateless(x, 2);
        Check.type(x, "7");
        Check.same("the text is as it was", x.compile(2), 2);
        Check.same("and is compiled where it is to be", x.at(2, 0, 0), 7);
    }

    private static void firstExceptionWins() {
        Check.about("where it lists more than one exception, the first one wins");
        RuleCalendar x = Check.with("1", 1);
        Check.noIndex("at, no day", () -> x.at(1, 1461, 0));
        Check.noIndex("at, no cell", () -> x.at(1, 0, 48));
        Check.noIndex("which, no day", () -> x.which(1, -1, 0));
        Check.noIndex("which, no cell", () -> x.which(1, 0, -1));
        Check.noIndex("next, no day", () -> x.next(1, 1461, 0));
        Check.noIndex("next, no cell", () -> x.next(1, 0, 48));
        Check.noIndex("total, no such days", () -> x.total(1, 5, 4, 0));
        Check.noIndex("compare, no other", () -> x.compare(1, 3));
        Check.noIndex("compare, no one", () -> x.compare(3, 1));
        Check.noIndex("inside, no other", () -> x.inside(1, 3));
        Check.noIndex("inside, no one", () -> x.inside(3, 1));
        Check.noIndex("run, no day", () -> x.run(1, 1461, 0, 0));
        x.shifts(true);
        Check.noState("at, lost", () -> x.at(1, 85, 4));
        Check.noState("which, lost", () -> x.which(1, 85, 4));
        Check.noState("next, lost", () -> x.next(1, 85, 4));
        Check.noState("total, no tariff", () -> x.total(1, 0, 0, -1));
        Check.noState("dead, not so many", () -> x.dead(1, -1));
        Check.noState("run, no what", () -> x.run(1, 0, 0, 3));
        Check.noState("run, no run", () -> x.run(1, 0, -1, 0));
    }
}

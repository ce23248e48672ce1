/** Each promise of the document by hand: ordinary inputs, the edges that it names, and wrong inputs. */
public final class PromisesTest {
    private static final int NONE = RuleCalendar.NONE;
    private static final int MAX = Integer.MAX_VALUE;
    private static final int MIN = Integer.MIN_VALUE;

    private PromisesTest() {
    }

    public static void main(String[] args) {
        newObject();
        type();
        wipe();
        compile();
        compileRefusesOnlyAtFaults();
        compileKeepsLimits();
        shifts();
        at();
        atSpans();
        atAtoms();
        atOperators();
        which();
        next();
        nextOnDoubledDays();
        total();
        dayOf();
        dateOf();
        feast();
        elapsed();
        clock();
        compare();
        inside();
        dead();
        run();
        runOnShiftedDays();
        throwingChangesNothing();
        Check.end("PromisesTest");
    }

    private static void newObject() {
        RuleCalendar x = new RuleCalendar();
        for (int calendar = 0; calendar < 3; calendar++) {
            int c = calendar;
            Check.noState("at on a new object", () -> x.at(c, 0, 0));
        }
        Check.same("new elapsed", x.elapsed(85, 6, false), 85 * 48 + 6);
        Check.same("new wipe", x.wipe(), 0);
        Check.same("NONE", RuleCalendar.NONE, -1);
    }

    private static void type() {
        RuleCalendar x = new RuleCalendar();
        Check.same("type 31", x.type((char) 31), false);
        Check.same("type 127", x.type((char) 127), false);
        Check.same("type 0", x.type((char) 0), false);
        Check.same("type 65535", x.type((char) 65535), false);
        Check.same("type 32", x.type((char) 32), true);
        Check.same("type 126", x.type((char) 126), true);
        for (int n = 2; n < 100; n++) {
            Check.same("type to 100", x.type('1'), true);
        }
        Check.same("type the 101st", x.type('1'), false);
        Check.same("wipe of 100", x.wipe(), 100);
        Check.same("type behind wipe", x.type('1'), true);
    }

    private static void wipe() {
        RuleCalendar x = new RuleCalendar();
        Check.type(x, "x1");
        Check.same("wipe", x.wipe(), 2);
        Check.same("wipe again", x.wipe(), 0);
        Check.compiled(x, 0, "7", 1);
        Check.same("at behind wipe", x.at(0, 0, 0), 7);
    }

    private static void compile() {
        RuleCalendar x = new RuleCalendar();
        Check.type(x, "1;2");
        Check.noIndex("compile(3)", () -> x.compile(3));
        Check.noIndex("compile(-1)", () -> x.compile(-1));
        Check.noIndex("compile(MIN)", () -> x.compile(MIN));
        Check.same("the text stays", x.compile(2), 2);
        Check.same("the text is empty then", x.wipe(), 0);
        Check.compiled(x, 2, "3x", -2);
        Check.same("the text is empty behind a fault", x.wipe(), 0);
        Check.same("the calendar stays", x.at(2, 0, 0), 2);
        Check.compiled(x, 2, "3;4;5", 3);
        Check.same("the calendar is new", x.at(2, 0, 0), 5);
        Check.compiled(x, 2, "1@0000-0030", 1);
        Check.same("nothing of the old one is left", x.at(2, 0, 1), 0);
        Check.same("no rule of the old one is left", x.which(2, 0, 1), 0);
        Check.noState("the others are not compiled", () -> x.at(1, 0, 0));
    }

    private static void compileRefusesOnlyAtFaults() {
        Check.fault("", 0);
        Check.fault("W1", 0);
        Check.fault(";", 0);
        Check.fault("1;;", 2);
        Check.fault("12", 1);
        Check.fault("1 ", 1);
        Check.fault("1@0800-1200@0800-1200", 11);
        Check.fault("1@3", 2);
        Check.fault("1@0800-25", 8);
        Check.fault("1@0830-0800;", 12);
        Check.fault("1@0830-0810", 9);
        Check.fault("1@0830-0805", 10);
        Check.fault("1@0000-000", 9);
        Check.fault("1@0000-2401", 10);
        Check.fault("1@0000-2430", 9);
        Check.fault("1@0830-0830", 9);
        Check.fault("1@0800-1200;x", 12);
        Check.fault("1W8", 2);
        Check.fault("1W11", 3);
        Check.fault("1W78", 3);
        Check.fault("1N0", 2);
        Check.fault("1Nl1", 2);
        Check.fault("1N10", 3);
        Check.fault("1D00", 3);
        Check.fault("1D2", 2);
        Check.fault("1D0132", 5);
        Check.fault("1D0229-023", 9);
        Check.fault("1D0630-0631", 10);
        Check.fault("1D1231;", 6);
        Check.fault("1P01", 3);
        Check.fault("1C00", 3);
        Check.fault("1C0505", 5);
        Check.fault("1C051", 4);
        Check.fault("1C9999", 5);
        Check.fault("1F00", 2);
        Check.fault("1F+0", 4);
        Check.fault("1F+0a", 4);
        Check.fault("1Y1999", 2);
        Check.fault("1Y2004", 5);
        Check.fault("1Y2002-2001", 10);
        Check.fault("1!", 2);
        Check.fault("1!!&", 3);
        Check.fault("1()", 2);
        Check.fault("1(W1", 4);
        Check.fault("1(W1;", 4);
        Check.fault("1W1)", 3);
        Check.fault("1W1&", 4);
        Check.fault("1W1|;", 4);
        Check.fault("1W1!W2", 3);
        Check.fault("1w1", 1);
    }

    private static void compileKeepsLimits() {
        Check.with("1;2;3;4;5;6;7;8;9;0;1;2", 12);
        Check.fault("1;2;3;4;5;6;7;8;9;0;1;2;", 23);
        Check.fault("1;2;3;4;5;6;7;8;9;0;1;2;3", 23);
        Check.with("1(((W1)))", 1);
        Check.with("1(((W1)|(W2))&((W3)))|(((W4)))", 1);
        Check.fault("1((((W1))))", 4);
        Check.fault("1W1&(W2|((!(W3))))", 11);
        StringBuilder nots = new StringBuilder("1");
        for (int n = 0; n < 97; n++) {
            nots.append('!');
        }
        RuleCalendar x = Check.with(nots + "W1", 1);
        Check.same("97 nots, Saturday", x.at(0, 0, 0), 1);
        Check.same("97 nots, Monday", x.at(0, 2, 0), 0);
        Check.fault(nots + "!!", 100);
    }

    private static void shifts() {
        RuleCalendar x = Check.with("1", 1);
        x.shifts(true);
        Check.same("at a lost cell", x.at(0, 449, 4), NONE);
        x.shifts(true);
        Check.same("on stays on", x.at(0, 449, 5), NONE);
        x.shifts(false);
        Check.same("off again", x.at(0, 449, 4), 1);
    }

    private static void at() {
        RuleCalendar x = Check.with("3W6;0@1200-1300", 2);
        Check.same("Saturday", x.at(0, 0, 0), 3);
        Check.same("Saturday noon", x.at(0, 0, 24), 0);
        Check.same("Sunday", x.at(0, 1, 47), 0);
        x.shifts(true);
        for (int day : new int[] {85, 449, 820, 1184}) {
            Check.same("before the lost hour", x.at(0, day, 3), 0);
            Check.same("lost 4", x.at(0, day, 4), NONE);
            Check.same("lost 5", x.at(0, day, 5), NONE);
            Check.same("behind the lost hour", x.at(0, day, 6), 0);
            Check.same("a week before", x.at(0, day - 7, 4), 0);
            Check.same("a week behind", x.at(0, day + 7, 4), 0);
        }
        Check.noIndex("calendar 3", () -> x.at(3, 0, 0));
        Check.noIndex("calendar -1", () -> x.at(-1, 0, 0));
        Check.noIndex("day -1", () -> x.at(0, -1, 0));
        Check.noIndex("day 1461", () -> x.at(0, 1461, 0));
        Check.noIndex("cell -1", () -> x.at(0, 0, -1));
        Check.noIndex("cell 48", () -> x.at(0, 0, 48));
        Check.noIndex("index before state", () -> x.at(1, 0, 48));
        Check.noState("not compiled", () -> x.at(1, 1460, 47));
        Check.noState("not compiled, lost", () -> x.at(1, 85, 4));
    }

    private static void atSpans() {
        RuleCalendar x = Check.with("1@2330-0030W6;2@0800-0000W7;3@0000-2400N17", 3);
        Check.same("no day before day 0", x.at(0, 0, 0), 0);
        Check.same("from on", x.at(0, 0, 47), 1);
        Check.same("before its beginning", x.at(0, 0, 46), 0);
        Check.same("the first Sunday, whole", x.at(0, 1, 0), 3);
        Check.same("the first Sunday, whole to its end", x.at(0, 1, 47), 3);
        Check.same("day behind", x.at(0, 8, 0), 1);
        Check.same("day behind, behind its end", x.at(0, 8, 1), 0);
        Check.same("to 0000, last cell", x.at(0, 8, 47), 2);
        Check.same("to 0000, nothing on the day behind", x.at(0, 9, 0), 0);
        RuleCalendar y = Check.with("4@2200-0200D1231-1231&Y2003-2003", 1);
        Check.same("the last day", y.total(0, 0, 1461, 4), 4);
    }

    private static void atAtoms() {
        Check.matched("W17", 0, 10, 1, 2, 8, 9);
        Check.matched("N16", 0, 60, 0, 35);
        Check.matched("N56", 0, 91, 28);
        Check.matched("NL2", 31, 91, 59, 87);
        Check.matched("NL4", 366, 456, 390, 418, 453);
        Check.matched("D0228-0301", 0, 1461, 58, 59, 60, 424, 425, 789, 790, 1154, 1155);
        Check.matched("D0229-0229", 0, 1461, 59);
        Check.matched("D1230-0102", 0, 1461,
                0, 1, 364, 365, 366, 367, 729, 730, 731, 732, 1094, 1095, 1096, 1097, 1459, 1460);
        Check.matched("P0", 0, 16, 0, 1, 9, 10, 11, 12, 13, 14, 15);
        Check.matched("P1", 1440, 1461, 1444, 1445, 1446, 1447, 1448, 1449, 1450, 1458, 1459, 1460);
        Check.matched("C9998", 0, 300, 98, 197, 296);
        Check.matched("C0703", 0, 20, 3, 10, 17);
        Check.matched("F+00", 0, 1461, 113, 470, 820, 1205);
        Check.matched("F-00", 0, 1461, 113, 470, 820, 1205);
        Check.matched("F+49", 0, 1461, 162, 519, 869, 1254);
        // The feast of 2002 has fewer than 99 days of its own year before it.
        Check.matched("F-99", 0, 1461, 14, 371, 1106);
        Check.matched("Y2000-2000&C0100", 364, 368, 364, 365);
        Check.matched("Y2001-2002&(D0101-0101|D1231-1231)", 0, 1461, 366, 730, 731, 1095);
        RuleCalendar x = Check.with("1C0100", 1);
        Check.same("C0100", x.total(0, 0, 1461, 1), 70128);
    }

    private static void atOperators() {
        Check.matched("!W1234567", 0, 1461);
        Check.matched("W6|W7&C0700", 0, 7, 0);
        Check.matched("(W6|W7)&C0701", 0, 7, 1);
        Check.matched("!W6&W67", 0, 7, 1);
        Check.matched("!(W6|W7)&W567", 0, 7, 6);
        Check.matched("!!W6", 0, 7, 0);
        Check.matched("!(!(!(W6|W5)|W1)&W56)", 0, 7, 1, 2, 3, 4, 5);
        Check.matched("W1&W2|W3&(W3|W4)&!C0700|W5", 0, 7, 4, 6);
    }

    private static void which() {
        RuleCalendar x = Check.with("5@0000-1200;0W6;5@0100-0300", 3);
        Check.same("rule 0 tariff decides", x.which(0, 0, 0), 2);
        Check.same("last wins", x.which(0, 0, 2), 3);
        Check.same("first", x.which(0, 1, 0), 1);
        Check.same("none", x.which(0, 1, 24), 0);
        x.shifts(true);
        Check.same("lost", x.which(0, 85, 4), NONE);
        Check.same("doubled", x.which(0, 302, 5), 3);
        Check.noIndex("calendar", () -> x.which(3, 0, 0));
        Check.noIndex("day", () -> x.which(1, 1461, 0));
        Check.noIndex("cell", () -> x.which(0, 0, 48));
        Check.noState("state", () -> x.which(1, 0, 0));
        RuleCalendar y = Check.with("1;1;1;1;1;1;1;1;1;1;1;1@0000-0030", 12);
        Check.same("rule 12", y.which(0, 700, 0), 12);
        Check.same("rule 11", y.which(0, 700, 1), 11);
    }

    private static void next() {
        RuleCalendar x = Check.with("1@0800-1200;1@1200-1300;2@1300-1330W1", 3);
        Check.same("to another tariff, not rule", x.next(0, 0, 16), 10);
        Check.same("from the middle", x.next(0, 0, 20), 6);
        Check.same("Monday", x.next(0, 2, 25), 1);
        Check.same("over midnight", x.next(0, 0, 47), 17);
        Check.same("none behind the last", x.next(0, 1460, 47), NONE);
        Check.same("none to the end", x.next(0, 1460, 26), NONE);
        Check.same("last change", x.next(0, 1460, 25), 1);
        x.shifts(true);
        Check.same("over the lost hour", x.next(0, 85, 0), 14);
        Check.same("over the doubled hour", x.next(0, 302, 0), 18);
        Check.same("from the lost hour", x.next(0, 85, 5), NONE);
        Check.noIndex("calendar", () -> x.next(-1, 0, 0));
        Check.noIndex("day", () -> x.next(0, MIN, 0));
        Check.noIndex("cell", () -> x.next(0, 0, MAX));
        Check.noState("state", () -> x.next(2, 0, 0));
    }

    private static void nextOnDoubledDays() {
        RuleCalendar x = Check.with("3@0230-0300", 1);
        x.shifts(true);
        Check.same("4 to 5", x.next(0, 302, 4), 1);
        Check.same("5 to the second 4", x.next(0, 302, 5), 1);
        Check.same("3 to the first 5", x.next(0, 302, 3), 2);
        Check.same("6 to the day behind", x.next(0, 302, 6), 47);
        Check.same("lost change", x.next(0, 85, 3), 1 + 42 + 5);
        RuleCalendar y = Check.with("3@0200-0300", 1);
        y.shifts(true);
        Check.same("4 to 6", y.next(0, 302, 4), 4);
        Check.same("5 to 6", y.next(0, 302, 5), 3);
        y.shifts(false);
        Check.same("5 to 6 with shifts off", y.next(0, 302, 5), 1);
    }

    private static void total() {
        RuleCalendar x = Check.with("1@0130-0330;2@0200-0230W7", 2);
        Check.same("a Sunday, 1", x.total(0, 1, 2, 1), 3);
        Check.same("a Sunday, 2", x.total(0, 1, 2, 2), 1);
        Check.same("a Sunday, 0", x.total(0, 1, 2, 0), 44);
        Check.same("no days", x.total(0, 1461, 1461, 0), 0);
        x.shifts(true);
        Check.same("losing day, 1", x.total(0, 85, 86, 1), 2);
        Check.same("losing day, 2", x.total(0, 85, 86, 2), 0);
        Check.same("losing day, 0", x.total(0, 85, 86, 0), 44);
        Check.same("doubling day, 1", x.total(0, 302, 303, 1), 4);
        Check.same("doubling day, 2", x.total(0, 302, 303, 2), 2);
        for (int tariff : new int[] {-1, 10, 16, 17, 256, MAX, MIN}) {
            Check.same("no such tariff", x.total(0, 0, 1461, tariff), 0);
        }
        Check.noIndex("calendar", () -> x.total(3, 0, 0, 0));
        Check.noIndex("from -1", () -> x.total(0, -1, 0, 0));
        Check.noIndex("from above to", () -> x.total(0, 2, 1, 0));
        Check.noIndex("to 1462", () -> x.total(0, 0, 1462, 0));
        Check.noIndex("index before state", () -> x.total(1, 0, 1462, 0));
        Check.noState("state", () -> x.total(1, 0, 0, 77));
    }

    private static void dayOf() {
        RuleCalendar x = new RuleCalendar();
        Check.same("2000-12-31", x.dayOf(2000, 12, 31), 365);
        Check.same("2001-03-01", x.dayOf(2001, 3, 1), 366 + 59);
        Check.same("2003-02-28", x.dayOf(2003, 2, 28), 1096 + 58);
        Check.same("2003-02-29", x.dayOf(2003, 2, 29), NONE);
        Check.same("1999-12-31", x.dayOf(1999, 12, 31), NONE);
        Check.same("month MAX", x.dayOf(2000, MAX, 1), NONE);
        Check.same("month MIN", x.dayOf(2000, MIN, 1), NONE);
        Check.same("year MAX", x.dayOf(MAX, 1, 1), NONE);
        Check.same("year MIN", x.dayOf(MIN, 1, 1), NONE);
        Check.same("day MAX", x.dayOf(2000, 1, MAX), NONE);
        Check.same("day -1", x.dayOf(2000, 1, -1), NONE);
        Check.same("day 32", x.dayOf(2000, 1, 32), NONE);
    }

    private static void dateOf() {
        RuleCalendar x = new RuleCalendar();
        Check.same("date of 425", x.dateOf(425, 0), 20010301);
        Check.same("date of 1460", x.dateOf(1460, 0), 20031231);
        Check.same("weekday of 1", x.dateOf(1, 1), 7);
        Check.same("weekday of 2", x.dateOf(2, 1), 1);
        Check.same("week of 1", x.dateOf(1, 2), 199952);
        Check.same("week of 365", x.dateOf(365, 2), 200052);
        Check.same("week of 730", x.dateOf(730, 2), 200201);
        Check.same("week of 1457", x.dateOf(1457, 2), 200352);
        Check.same("day 1461", x.dateOf(1461, 2), NONE);
        Check.same("day MIN", x.dateOf(MIN, 1), NONE);
        Check.same("day MAX", x.dateOf(MAX, 0), NONE);
        Check.same("what -1", x.dateOf(0, -1), NONE);
        Check.same("what 3", x.dateOf(0, 3), NONE);
    }

    private static void feast() {
        RuleCalendar x = new RuleCalendar();
        Check.same("1900", x.feast(1900), 415);
        Check.same("1943", x.feast(1943), 425);
        Check.same("2008", x.feast(2008), 323);
        Check.same("2024", x.feast(2024), 331);
        Check.same("2299", x.feast(2299), 416);
        Check.same("1899", x.feast(1899), NONE);
        Check.same("2300", x.feast(2300), NONE);
        Check.same("MAX", x.feast(MAX), NONE);
        Check.same("MIN", x.feast(MIN), NONE);
    }

    private static void elapsed() {
        RuleCalendar x = new RuleCalendar();
        Check.same("off, second", x.elapsed(302, 4, true), 302 * 48 + 4);
        x.shifts(true);
        Check.same("2001 lost 5", x.elapsed(449, 5, true), NONE);
        Check.same("2001 behind it", x.elapsed(449, 6, true), 449 * 48 + 4);
        Check.same("2001 summer", x.elapsed(500, 5, true), 500 * 48 + 3);
        Check.same("2001 doubled first", x.elapsed(666, 5, false), 666 * 48 + 3);
        Check.same("2001 doubled second", x.elapsed(666, 5, true), 666 * 48 + 5);
        Check.same("2001 doubled, cell 3", x.elapsed(666, 3, true), 666 * 48 + 1);
        Check.same("2001 doubled, cell 6", x.elapsed(666, 6, true), 666 * 48 + 6);
        Check.noIndex("day", () -> x.elapsed(-1, 0, false));
        Check.noIndex("cell", () -> x.elapsed(0, 48, false));
        Check.noIndex("cell of a losing day", () -> x.elapsed(85, 48, false));
    }

    private static void clock() {
        RuleCalendar x = new RuleCalendar();
        Check.same("off", x.clock(14500), 302040);
        Check.same("off, last", x.clock(70127), 1460470);
        Check.same("off, behind", x.clock(70128), NONE);
        Check.same("MAX", x.clock(MAX), NONE);
        Check.same("MIN", x.clock(MIN), NONE);
        x.shifts(true);
        Check.same("end of a losing day", x.clock(4125), 85470);
        Check.same("the day behind", x.clock(4126), 86000);
        Check.same("cell 3 of a doubling day", x.clock(14497), 302030);
        Check.same("end of a doubling day", x.clock(14543), 302470);
        Check.same("the day behind that", x.clock(14544), 303000);
        Check.same("MAX, shifted", x.clock(MAX), NONE);
    }

    private static void compare() {
        RuleCalendar x = Check.with("1@0200-0230D0326-0326;2D1231-1231&Y2003-2003", 2);
        Check.compiled(x, 1, "2@0000-2330D1231-1231&Y2003-2003;9W1&!W1", 2);
        Check.same("same calendar", x.compare(0, 0), NONE);
        Check.same("first difference", x.compare(0, 1), 100 * 85 + 4);
        Check.same("the other way", x.compare(1, 0), 100 * 85 + 4);
        x.shifts(true);
        // 2001 has its 26th of March on a Monday.
        Check.same("lost ones are passed", x.compare(0, 1), 100 * 450 + 4);
        Check.compiled(x, 0, "2@0000-2330D1231-1231&Y2003-2003;3@0200-0300D0326-0326&Y2000-2000", 2);
        Check.same("only lost ones differ", x.compare(0, 1), NONE);
        Check.compiled(x, 0, "2D1231-1231&Y2003-2003", 1);
        Check.same("the last cell", x.compare(0, 1), 146047);
        Check.noIndex("one", () -> x.compare(3, 2));
        Check.noIndex("other", () -> x.compare(2, -1));
        Check.noState("one not compiled", () -> x.compare(2, 0));
        Check.noState("other not compiled", () -> x.compare(0, 2));
    }

    private static void inside() {
        RuleCalendar x = Check.with("1@0800-1200;0@0900-1000", 2);
        Check.compiled(x, 1, "2@0800-0900;3@1000-1230", 2);
        Check.same("inside, other tariffs", x.inside(0, 1), true);
        Check.same("not inside", x.inside(1, 0), false);
        Check.same("inside itself", x.inside(1, 1), true);
        Check.compiled(x, 2, "0", 1);
        Check.same("nothing is inside", x.inside(2, 0), true);
        Check.same("not inside nothing", x.inside(0, 2), false);
        Check.compiled(x, 2, "1@0200-0300D0326-0326&Y2000-2000;1@0800-0830", 2);
        Check.same("lost cells, off", x.inside(2, 0), false);
        x.shifts(true);
        Check.same("lost cells, on", x.inside(2, 0), true);
        RuleCalendar y = Check.with("1", 1);
        Check.noIndex("one", () -> y.inside(-1, 1));
        Check.noIndex("other", () -> y.inside(1, 3));
        Check.noState("one not compiled", () -> y.inside(1, 0));
        Check.noState("other not compiled", () -> y.inside(0, 1));
    }

    private static void dead() {
        RuleCalendar x = Check.with("1W1;2W2&W3;3@0200-0300D0326-0326&Y2000-2000;4W1;0@1200-1230;5@1200-1230", 6);
        int[] off = {1, 2, 5, NONE};
        for (int i = 0; i < off.length; i++) {
            Check.same("dead, off " + i, x.dead(0, i), off[i]);
        }
        x.shifts(true);
        int[] on = {1, 2, 3, 5, NONE};
        for (int i = 0; i < on.length; i++) {
            Check.same("dead, on " + i, x.dead(0, i), on[i]);
        }
        Check.same("dead -1", x.dead(0, -1), NONE);
        Check.same("dead MIN", x.dead(0, MIN), NONE);
        Check.same("dead MAX", x.dead(0, MAX), NONE);
        Check.noIndex("calendar", () -> x.dead(3, 0));
        Check.noState("state", () -> x.dead(1, 0));
        RuleCalendar y = Check.with("1;1;1;1;1;1;1;1;1;1;1;1", 12);
        Check.same("eleventh", y.dead(0, 10), 11);
        Check.same("the last lives", y.dead(0, 11), NONE);
    }

    private static void run() {
        RuleCalendar x = Check.with("1@0000-0200;1@0200-0400;2@0400-0430;1@0500-0600;3@2330-2400", 5);
        Check.runs(x, 3, new int[][] {{0, 7, 1}, {8, 8, 2}, {10, 11, 1}, {47, 47, 3}});
        Check.same("what 3", x.run(0, 3, 0, 3), NONE);
        Check.same("what -1", x.run(0, 3, 0, -1), NONE);
        Check.same("i -1", x.run(0, 3, -1, 0), NONE);
        Check.same("i MAX", x.run(0, 3, MAX, 1), NONE);
        Check.same("i MIN", x.run(0, 3, MIN, 2), NONE);
        Check.noIndex("calendar", () -> x.run(3, 0, 0, 0));
        Check.noIndex("day", () -> x.run(0, 1461, 0, 0));
        Check.noIndex("day before state", () -> x.run(1, -1, 0, 0));
        Check.noState("state", () -> x.run(1, 0, 0, 9));
    }

    private static void runOnShiftedDays() {
        RuleCalendar x = Check.with("1@0100-0200;2@0200-0300;1@0300-0400", 3);
        Check.runs(x, 85, new int[][] {{2, 3, 1}, {4, 5, 2}, {6, 7, 1}});
        x.shifts(true);
        Check.runs(x, 85, new int[][] {{2, 7, 1}});
        Check.runs(x, 302, new int[][] {{2, 3, 1}, {4, 5, 2}, {6, 7, 1}});
        RuleCalendar y = Check.with("1@0100-0230;2@0300-0400", 2);
        y.shifts(true);
        Check.runs(y, 85, new int[][] {{2, 3, 1}, {6, 7, 2}});
        RuleCalendar z = Check.with("1@0200-0300", 1);
        z.shifts(true);
        Check.runs(z, 85, new int[][] {});
    }

    private static void throwingChangesNothing() {
        RuleCalendar x = Check.with("4", 1);
        Check.type(x, "5");
        Check.noIndex("compile", () -> x.compile(7));
        Check.noIndex("total", () -> x.total(0, 0, 2000, 4));
        Check.noState("at", () -> x.at(1, 0, 0));
        Check.same("calendar 0 is as it was", x.at(0, 9, 9), 4);
        Check.same("the text is as it was", x.wipe(), 1);
        Check.noState("calendar 1 is not compiled", () -> x.at(1, 0, 0));
    }
}

import java.util.Random;
import java.util.regex.Matcher;
import java.util.regex.Pattern;

/**
 * The faults of many texts against a pattern that lists every span, date and cycle, so that it knows no
 * shortcut of the program: a text is the beginning of rules when the pattern matches it or only wants more.
 */
public final class FaultTest {
    private static final String ALPHABET = "0123456789;@-WNDPCFYL+!&|()x ";
    private static final Pattern RULES = rules();
    private static final Random CHANCE = new Random(20000101);
    /** An object is good for 512 calls: five of the longest texts and their compiling. */
    private static final int TEXTS_AN_OBJECT = 5;
    private static RuleCalendar x;
    private static int texts = 0;

    private FaultTest() {
    }

    public static void main(String[] args) {
        everyNextCharacter("1@0830-0900W135;2N3");
        everyNextCharacter("3D0229-1130|C10");
        everyNextCharacter("4!(F+12&Y2001-2002|(NL1&!(P0");
        everyNextCharacter("0@2330-2400(((W7)))");
        everyNextCharacter("1;1;1;1;1;1;1;1;1;1;1;1");
        everySpanEnd();
        for (int n = 0; n < 10000; n++) {
            faultIsDue(damaged(someRules()));
        }
        Check.end("FaultTest");
    }

    private static void everyNextCharacter(String text) {
        for (int length = 0; length <= text.length(); length++) {
            for (char c = 32; c <= 126; c++) {
                faultIsDue(text.substring(0, length) + c);
            }
        }
    }

    private static void everySpanEnd() {
        for (String from : new String[] {"0000", "0030", "1000", "2330"}) {
            for (int end = 0; end <= 2500; end += 5) {
                faultIsDue("1@" + from + "-" + String.format("%04d", end));
            }
        }
    }

    private static void faultIsDue(String text) {
        if (texts % TEXTS_AN_OBJECT == 0) {
            x = new RuleCalendar();
        }
        texts++;
        Check.type(x, text);
        int got = x.compile(0);
        if (RULES.matcher(text).matches()) {
            Check.same("compile of " + text, got, text.split(";").length);
        } else {
            Check.same("compile of " + text, got, -1 - fault(text));
        }
    }

    /** How long the longest beginning of rules is: what begins a beginning is one too, so halving finds it. */
    private static int fault(String text) {
        int sure = 0;
        int most = text.length();
        while (sure < most) {
            int half = (sure + most + 1) / 2;
            Matcher matcher = RULES.matcher(text.substring(0, half));
            if (matcher.matches() || matcher.hitEnd()) {
                sure = half;
            } else {
                most = half - 1;
            }
        }
        return sure;
    }

    private static Pattern rules() {
        String matcher = "(?!)";
        for (int depth = 1; depth <= 4; depth++) {
            String one = "!*(?:" + atom() + "|\\(" + matcher + "\\))";
            String all = one + "(?:&" + one + ")*";
            matcher = "(?:" + all + "(?:\\|" + all + ")*)";
        }
        String rule = "[0-9](?:@(?:" + spans() + "))?(?:" + matcher + ")?";
        return Pattern.compile(rule + "(?:;" + rule + "){0,11}");
    }

    private static String atom() {
        return "(?:W(?:" + weekdays() + ")|N[1-5L][1-7]|D" + date() + "-" + date() + "|P[01]|C(?:" + cycles()
                + ")|F[+-][0-9][0-9]|Y(?:2000-200[0-3]|2001-200[1-3]|2002-200[23]|2003-2003))";
    }

    private static String weekdays() {
        return "(?=[1-7])1?2?3?4?5?6?7?";
    }

    private static String date() {
        return "(?:0[1-9](?:0[1-9]|1[0-9]|2[0-8])|1[0-2](?:0[1-9]|1[0-9]|2[0-8])|0229"
                + "|(?:01|03|04|05|06|07|08|09|10|11|12)(?:29|30)|(?:01|03|05|07|08|10|12)31)";
    }

    private static String cycles() {
        StringBuilder all = new StringBuilder();
        for (int cycle = 1; cycle < 100; cycle++) {
            for (int rest = 0; rest < cycle; rest++) {
                all.append(all.length() > 0 ? "|" : "").append(String.format("%02d%02d", cycle, rest));
            }
        }
        return all.toString();
    }

    private static String spans() {
        StringBuilder all = new StringBuilder();
        for (int from = 0; from < 48; from++) {
            for (int to = 0; to <= 48; to++) {
                if (from != to) {
                    all.append(all.length() > 0 ? "|" : "").append(half(from)).append('-').append(half(to));
                }
            }
        }
        return all.toString();
    }

    private static String half(int cell) {
        return String.format("%02d%s", cell / 2, cell % 2 == 0 ? "00" : "30");
    }

    private static String someRules() {
        StringBuilder text = new StringBuilder();
        int rules = 1 + CHANCE.nextInt(CHANCE.nextInt(4) == 0 ? 14 : 3);
        for (int rule = 0; rule < rules; rule++) {
            text.append(rule > 0 ? ";" : "").append(CHANCE.nextInt(10));
            if (CHANCE.nextInt(3) == 0) {
                text.append('@').append(half(CHANCE.nextInt(48))).append('-').append(half(CHANCE.nextInt(49)));
            }
            if (CHANCE.nextInt(3) > 0) {
                text.append(someMatcher(1));
            }
        }
        return text.toString();
    }

    private static String someMatcher(int depth) {
        StringBuilder text = new StringBuilder();
        int ones = 1 + CHANCE.nextInt(3);
        for (int n = 0; n < ones; n++) {
            text.append(n == 0 ? "" : CHANCE.nextBoolean() ? "&" : "|").append(CHANCE.nextInt(4) == 0 ? "!" : "");
            if (depth < 6 && CHANCE.nextInt(3) == 0) {
                text.append('(').append(someMatcher(depth + 1)).append(')');
            } else {
                text.append(someAtom());
            }
        }
        return text.toString();
    }

    private static String someAtom() {
        switch (CHANCE.nextInt(7)) {
            case 0:
                return "W" + (CHANCE.nextBoolean() ? "" : 1 + CHANCE.nextInt(5)) + (1 + CHANCE.nextInt(7));
            case 1:
                return "N" + "12345L".charAt(CHANCE.nextInt(6)) + (1 + CHANCE.nextInt(7));
            case 2:
                return String.format("D%02d%02d-%02d%02d", 1 + CHANCE.nextInt(12), 1 + CHANCE.nextInt(31),
                        1 + CHANCE.nextInt(12), 1 + CHANCE.nextInt(31));
            case 3:
                return "P" + CHANCE.nextInt(2);
            case 4:
                return String.format("C%02d%02d", CHANCE.nextInt(40), CHANCE.nextInt(20));
            case 5:
                return String.format("F%s%02d", CHANCE.nextBoolean() ? "+" : "-", CHANCE.nextInt(100));
            default:
                return "Y200" + CHANCE.nextInt(4) + "-200" + CHANCE.nextInt(4);
        }
    }

    private static String damaged(String whole) {
        StringBuilder text = new StringBuilder(whole);
        text.setLength(Math.min(100, text.length()));
        int place = CHANCE.nextInt(text.length());
        switch (CHANCE.nextInt(4)) {
            case 0:
                text.setCharAt(place, ALPHABET.charAt(CHANCE.nextInt(ALPHABET.length())));
                break;
            case 1:
                text.deleteCharAt(place);
                break;
            case 2:
                text.setLength(place);
                break;
            default:
                break;
        }
        return text.toString();
    }
}

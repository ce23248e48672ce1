/** What the tests share: counting wrong answers, typing texts, and the questions that many of them ask. */
final class Check {
    static final int NONE = RuleCalendar.NONE;

    private static String sentence = "";
    private static int checks = 0;
    private static int wrong = 0;

    private Check() {
    }

    /** The words of the document that the checks from here on are about. */
    static void about(String words) {
        sentence = "\"" + words + "\": ";
    }

    static void same(String call, long got, long due) {
        checks++;
        if (got != due) {
            wrong++;
            System.out.println(sentence + call + " answered " + got + ", due is " + due);
        }
    }

    static void same(String call, boolean got, boolean due) {
        same(call, got ? 1 : 0, due ? 1 : 0);
    }

    static void noIndex(String call, Runnable action) {
        thrown(call, action, IndexOutOfBoundsException.class);
    }

    static void noState(String call, Runnable action) {
        thrown(call, action, IllegalStateException.class);
    }

    static void noException(String call, Runnable action) {
        checks++;
        try {
            action.run();
        } catch (RuntimeException e) {
            wrong++;
            System.out.println(sentence + call + " threw " + e.getClass().getSimpleName() + ", due is nothing");
        }
    }

    private static void thrown(String call, Runnable action, Class<?> due) {
        checks++;
        String got = "nothing";
        try {
            action.run();
        } catch (RuntimeException e) {
            if (e.getClass() == due) {
                return;
            }
            got = e.getClass().getSimpleName();
        }
        wrong++;
        System.out.println(sentence + call + " threw " + got + ", due is " + due.getSimpleName());
    }

    static void type(RuleCalendar x, String text) {
        int typed = 0;
        for (int place = 0; place < text.length(); place++) {
            typed += x.type(text.charAt(place)) ? 1 : 0;
        }
        same("characters typed of " + text, typed, text.length());
    }

    static void compiled(RuleCalendar x, int calendar, String text, int due) {
        type(x, text);
        same("compile of " + text, x.compile(calendar), due);
    }

    /** A new object whose calendar 0 is compiled from a text of so many rules. */
    static RuleCalendar with(String text, int rules) {
        RuleCalendar x = new RuleCalendar();
        compiled(x, 0, text, rules);
        return x;
    }

    static void fault(String text, int place) {
        RuleCalendar x = new RuleCalendar();
        compiled(x, 0, text, -1 - place);
        noState("a fault compiles nothing: " + text, () -> x.at(0, 0, 0));
    }

    /** A matcher matches, of the days from .. to - 1, these alone. */
    static void matched(String matcher, int from, int to, int... days) {
        RuleCalendar x = with("1" + matcher, 1);
        same(matcher + " total", x.total(0, from, to, 1), 48L * days.length);
        for (int day : days) {
            same(matcher + " on " + day, x.at(0, day, 11), 1);
        }
    }

    /** The runs of a day of calendar 0, each as first cell, last cell and tariff, and none more. */
    static void runs(RuleCalendar x, int day, int[][] due) {
        for (int i = 0; i <= due.length; i++) {
            for (int what = 0; what < 3; what++) {
                same("run " + i + " what " + what + " of day " + day,
                        x.run(0, day, i, what), i < due.length ? due[i][what] : NONE);
            }
        }
    }

    static void end(String test) {
        System.out.println(test + ": " + checks + " checks, " + wrong + " wrong");
        if (wrong > 0) {
            System.exit(1);
        }
    }
}

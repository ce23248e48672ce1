/** What the tests share: counting wrong answers, and typing texts. */
final class Check {
    static final int NONE = RuleCalendar.NONE;

    private static int checks = 0;
    private static int wrong = 0;

    private Check() {
    }

    static void same(String call, long got, long due) {
        checks++;
        if (got != due) {
            wrong++;
            System.out.println(call + " answered " + got + ", due is " + due);
        }
    }

    static void same(String call, boolean got, boolean due) {
        same(call, got ? 1 : 0, due ? 1 : 0);
    }

    static void noIndex(String call, Runnable action) {
        thrown(call, action, IndexOutOfBoundsException.class);
    }

    static void noState(String call, Runnable action) {
        thrown(call, action, IllegalStateException.class);
    }

    private static void thrown(String call, Runnable action, Class<?> due) {
        checks++;
        String got = "nothing";
        try {
            action.run();
        } catch (RuntimeException e) {
            if (e.getClass() == due) {
                return;
            }
            got = e.getClass().getSimpleName();
        }
        wrong++;
        System.out.println(call + " threw " + got + ", due is " + due.getSimpleName());
    }

    static void type(RuleCalendar x, String text) {
        for (int place = 0; place < text.length(); place++) {
            same("type of " + text.charAt(place) + " in " + text, x.type(text.charAt(place)), true);
        }
    }

    static void compiled(RuleCalendar x, int calendar, String text, int due) {
        type(x, text);
        same("compile of " + text, x.compile(calendar), due);
    }

    /** A new object whose calendar 0 is compiled from a text of so many rules. */
    static RuleCalendar with(String text, int rules) {
        RuleCalendar x = new RuleCalendar();
        compiled(x, 0, text, rules);
        return x;
    }

    static void end(String test) {
        System.out.println(test + ": " + checks + " checks, " + wrong + " wrong");
        if (wrong > 0) {
            System.exit(1);
        }
    }
}

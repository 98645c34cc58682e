import java.util.Objects;

/** What the tests share: it compares answers with those that are due and counts the wrong ones. */
final class Due {
    /** A call of the class, whose answer is told whole. */
    interface Call {
        Object answer();
    }

    private int wrong = 0;

    /** The answer is this one: a number, a text, true or false. */
    void is(String what, Object want, Call call) {
        Object got = outcome(call);
        Object due = want instanceof Integer ? Long.valueOf((Integer) want) : want;
        if (!Objects.equals(got, due)) {
            wrong++;
            System.out.println(what + ": answered " + got + ", due is " + due);
        }
    }

    /** The call throws just this exception, no class below it. */
    void isThrown(String what, Class<? extends RuntimeException> want, Call call) {
        is(what, "throws." + want.getSimpleName(), call);
    }

    void noPlace(String what, Call call) {
        isThrown(what, IndexOutOfBoundsException.class, call);
    }

    void noWord(String what, Call call) {
        isThrown(what, IllegalArgumentException.class, call);
    }

    static Object outcome(Call call) {
        try {
            Object got = call.answer();
            return got instanceof Integer ? Long.valueOf((Integer) got) : got;
        } catch (RuntimeException e) {
            return "throws." + e.getClass().getSimpleName();
        }
    }

    void end(String test) {
        System.out.println(test + ": " + (wrong == 0 ? "all answers are as due" : wrong + " wrong"));
        if (wrong != 0) {
            System.exit(1);
        }
    }

    /** Makes a rope this text, five letters by a call, as an object's calls are counted. */
    static void put(Rewriterope x, int rope, String text) {
        x.clear(rope);
        for (int i = 0; i < text.length(); i += 5) {
            x.type(rope, letter(text, i), letter(text, i + 1), letter(text, i + 2),
                    letter(text, i + 3), letter(text, i + 4));
        }
    }

    private static int letter(String text, int at) {
        return at < text.length() ? text.charAt(at) - 'a' : -1;
    }

    /** Adds rules, each written as its left, ">", its right; the ropes 0 and 1 are changed. */
    static Rewriterope withRules(String... rules) {
        Rewriterope x = new Rewriterope();
        addRules(x, rules);
        return x;
    }

    static void addRules(Rewriterope x, String... rules) {
        for (String rule : rules) {
            int mid = rule.indexOf('>');
            put(x, 0, rule.substring(0, mid));
            put(x, 1, rule.substring(mid + 1));
            x.rule(0, 1);
        }
        x.clear(0);
        x.clear(1);
    }

    static String rulesOf(Rewriterope x) {
        StringBuilder all = new StringBuilder();
        for (int rule = 0; rule < x.rules(); rule++) {
            all.append(rule == 0 ? "" : " ").append(x.ruleText(rule));
        }
        return all.toString();
    }

    static String times(String part, int times) {
        return part.repeat(times);
    }
}

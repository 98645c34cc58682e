/** Promises 12 to 21: how rules come, change and go. */
public final class RulesTest {
    private static final Due DUE = new Due();

    public static void main(String[] args) {
        rule();
        falling();
        drop();
        noRules();
        flip();
        side();
        ruleText();
        falls();
        areFalling();
        DUE.end("RulesTest");
    }

    private static void rule() {
        Rewriterope x = new Rewriterope();
        Due.put(x, 0, "abcdab");
        Due.put(x, 1, "abcdabc");
        DUE.is("left of none", -9, () -> x.rule(2, 0));
        DUE.is("left of 7", -9, () -> x.rule(1, 0));
        DUE.is("right of 7", -9, () -> x.rule(0, 1));
        DUE.is("no rule came", 0, x::rules);
        DUE.is("6 to none", 0, () -> x.rule(0, 2));
        DUE.is("6 to 6, both the same", 1, () -> x.rule(0, 0));
        DUE.is("rules", "abcdab> abcdab>abcdab", () -> Due.rulesOf(x));
        x.clear(0);
        DUE.is("a rule keeps its sides", "abcdab> abcdab>abcdab", () -> Due.rulesOf(x));
        Due.put(x, 0, "a");
        for (int number = 2; number < 8; number++) {
            DUE.is("a rule behind the others", number, () -> x.rule(0, 2));
        }
        DUE.is("the same rule again stays", 8, x::rules);
        DUE.is("a ninth rule", -9, () -> x.rule(0, 2));
        DUE.is("still 8", 8, x::rules);
        DUE.is("refusals", 4, () -> x.house(0));
        DUE.noPlace("from 4", () -> x.rule(4, 0));
        DUE.noPlace("from -1", () -> x.rule(-1, 0));
        DUE.noPlace("to 4", () -> x.rule(0, 4));
        DUE.noPlace("to -1", () -> x.rule(0, -1));
        DUE.is("exceptions go ahead of REFUSED", 4, () -> x.house(0));
    }

    private static void falling() {
        Rewriterope x = new Rewriterope();
        Due.put(x, 0, "ab");
        Due.put(x, 1, "ba");
        Due.put(x, 2, "abcdabc");
        DUE.is("the first one behind", 0, () -> x.falling(1, 0));
        DUE.is("the second one behind", 1, () -> x.falling(0, 1));
        DUE.is("to none", 2, () -> x.falling(3, 0));
        DUE.is("rules", "ba>ab ba>ab ab>", () -> Due.rulesOf(x));
        DUE.is("the same rope", -9, () -> x.falling(0, 0));
        DUE.is("none and none", -9, () -> x.falling(3, 3));
        DUE.is("left of 7", -9, () -> x.falling(0, 2));
        x.copy(3, 0);
        DUE.is("the same text", -9, () -> x.falling(3, 0));
        DUE.is("refusals", 4, () -> x.house(0));
        for (int number = 3; number < 8; number++) {
            x.falling(0, 1);
        }
        DUE.is("a ninth rule", -9, () -> x.falling(0, 1));
        DUE.is("8 rules", 8, x::rules);
        DUE.is("refusals", 5, () -> x.house(0));
        DUE.noPlace("one 4", () -> x.falling(4, 0));
        DUE.noPlace("one -1", () -> x.falling(-1, 0));
        DUE.noPlace("other 4", () -> x.falling(0, 4));
        DUE.noPlace("other -1", () -> x.falling(0, -1));
    }

    private static void drop() {
        Rewriterope x = Due.withRules("a>b", "b>c", "c>d", "d>");
        DUE.is("drop", 3, () -> x.drop(1));
        DUE.is("those behind it get a number less", "a>b c>d d>", () -> Due.rulesOf(x));
        DUE.noPlace("rule 3 is gone", () -> x.drop(3));
        DUE.noPlace("rule -1", () -> x.drop(-1));
        DUE.is("drop the last", 2, () -> x.drop(2));
        DUE.is("rules", "a>b c>d", () -> Due.rulesOf(x));
        DUE.is("drop the first", 1, () -> x.drop(0));
        DUE.is("rules", "c>d", () -> Due.rulesOf(x));
        DUE.is("drop the only one", 0, () -> x.drop(0));
        DUE.noPlace("no rule", () -> x.drop(0));
        Due.addRules(x, "ab>c");
        DUE.is("a rule comes anew", "ab>c", () -> Due.rulesOf(x));
        Rewriterope y = Due.withRules("a>b", "b>c", "c>d", "d>", "aa>", "bb>", "cc>", "dd>");
        DUE.is("drop of 8", 7, () -> y.drop(0));
        DUE.is("rules", "b>c c>d d> aa> bb> cc> dd>", () -> Due.rulesOf(y));
    }

    private static void noRules() {
        Rewriterope x = Due.withRules("a>b", "b>c");
        DUE.is("all go", 2, x::noRules);
        DUE.is("none is left", 0, x::rules);
        DUE.is("none goes", 0, x::noRules);
        DUE.noPlace("no rule", () -> x.ruleText(0));
    }

    private static void flip() {
        Rewriterope x = Due.withRules("ab>c", "d>", "a>a", "c>d");
        DUE.is("it falls no more", 0, () -> x.flip(0));
        DUE.is("flipped", "c>ab d> a>a c>d", () -> Due.rulesOf(x));
        DUE.is("it falls again", 1, () -> x.flip(0));
        DUE.is("flipped", "ab>c d> a>a c>d", () -> Due.rulesOf(x));
        DUE.is("right of none", -9, () -> x.flip(1));
        DUE.is("both the same", 0, () -> x.flip(2));
        DUE.is("lesser letter", 1, () -> x.flip(3));
        DUE.is("flipped", "ab>c d> a>a d>c", () -> Due.rulesOf(x));
        DUE.is("refusals", 1, () -> x.house(0));
        DUE.noPlace("flip 4", () -> x.flip(4));
        DUE.noPlace("flip -1", () -> x.flip(-1));
    }

    private static void side() {
        Rewriterope x = Due.withRules("abc>da", "d>");
        DUE.is("left", 3, () -> x.side(2, 0, false));
        DUE.is("left", "abc", () -> x.text(2));
        DUE.is("right", 2, () -> x.side(2, 0, true));
        DUE.is("right", "da", () -> x.text(2));
        DUE.is("right of none", 0, () -> x.side(2, 1, true));
        DUE.is("right of none", "", () -> x.text(2));
        x.side(3, 0, false);
        x.type(3, 0, -1, -1, -1, -1);
        DUE.is("the rule stays", "abc>da d>", () -> Due.rulesOf(x));
        DUE.noPlace("rope 4", () -> x.side(4, 0, false));
        DUE.noPlace("rope -1", () -> x.side(-1, 0, true));
        DUE.noPlace("rule 2", () -> x.side(0, 2, false));
        DUE.noPlace("rule -1", () -> x.side(0, -1, true));
    }

    private static void ruleText() {
        Rewriterope x = Due.withRules("abcdab>bbbbbb", "a>");
        DUE.is("ruleText", "abcdab>bbbbbb", () -> x.ruleText(0));
        DUE.is("ruleText", "a>", () -> x.ruleText(1));
        DUE.noPlace("ruleText 2", () -> x.ruleText(2));
        DUE.noPlace("ruleText -1", () -> x.ruleText(-1));
    }

    private static void falls() {
        Rewriterope x = Due.withRules("ab>d", "d>aa", "b>a", "a>b", "c>c", "a>");
        boolean[] want = {true, false, true, false, false, true};
        for (int rule = 0; rule < want.length; rule++) {
            int it = rule;
            DUE.is("falls " + rule, want[rule], () -> x.falls(it));
        }
        DUE.noPlace("falls 6", () -> x.falls(6));
        DUE.noPlace("falls -1", () -> x.falls(-1));
    }

    private static void areFalling() {
        DUE.is("without rules", true, () -> new Rewriterope().areFalling());
        DUE.is("all", true, () -> Due.withRules("ab>d", "b>a").areFalling());
        DUE.is("not the last", false, () -> Due.withRules("ab>d", "a>b").areFalling());
        DUE.is("not the first", false, () -> Due.withRules("a>a", "ab>d").areFalling());
    }
}

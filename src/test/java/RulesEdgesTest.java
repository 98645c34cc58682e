/** The edges that promises 12 to 21 name: each sentence with what is just within it and just not. */
public final class RulesEdgesTest {
    private static final Edges EDGES = new Edges();
    private static final String SIX = "abcdab";
    private static final String SEVEN = "abcdabc";
    private static final String A32 = Due.times("a", 32);

    public static void main(String[] args) {
        rulesAtMost();
        ruleLeft();
        ruleRight();
        fallingSame();
        fallingSides();
        drop();
        noRules();
        flip();
        flipRefused();
        side();
        rulesAndTheirTexts();
        falls();
        areFalling();
        EDGES.end("RulesEdgesTest");
    }

    private static void rulesAtMost() {
        Scene eight = Scene.of("c", "d", SEVEN).eight("a>b");
        Scene seven = Scene.of("d", "c").rules("a>b", "a>b", "a>b", "a>b", "a>b", "a>b", "a>b");
        Scene then = Scene.of("d", "c").rules("a>b", "a>b", "a>b", "a>b", "a>b", "a>b", "a>b", "d>c");
        EDGES.makes("12 the first one", 0, Scene.of("d", "c"), x -> x.rule(0, 1),
                Scene.of("d", "c").rules("d>c"));
        EDGES.makes("12 the eighth one", 7, seven, x -> x.rule(0, 1), then);
        EDGES.refused("12 the ninth one", eight, x -> x.rule(0, 1));
        EDGES.makes("13 the first one", 0, Scene.of("d", "c"), x -> x.falling(0, 1),
                Scene.of("d", "c").rules("d>c"));
        EDGES.makes("13 the eighth one", 7, seven, x -> x.falling(1, 0), then);
        EDGES.refused("13 the ninth one", eight, x -> x.falling(0, 1));
        EDGES.refused("13 the ninth one, the same text", eight, x -> x.falling(0, 0));
        EDGES.refused("12 the ninth one, of 7 letters", eight, x -> x.rule(2, 3));
        EDGES.noRope("12 from, ahead of REFUSED", eight, (x, n) -> x.rule(n, 0));
        EDGES.noRope("12 to, ahead of REFUSED", eight, (x, n) -> x.rule(0, n));
        EDGES.noRope("13 one, ahead of REFUSED", eight, (x, n) -> x.falling(n, 0));
        EDGES.noRope("13 other, ahead of REFUSED", eight, (x, n) -> x.falling(0, n));
        EDGES.noRope("12 from", Scene.of("a"), (x, n) -> x.rule(n, 0));
        EDGES.noRope("12 to", Scene.of("a"), (x, n) -> x.rule(0, n));
        EDGES.noRope("13 one", Scene.of("a"), (x, n) -> x.falling(n, 1));
        EDGES.noRope("13 other", Scene.of("a"), (x, n) -> x.falling(1, n));
    }

    /** A rule from one text to another comes as the first one. */
    private static void comes(String what, String left, String right) {
        EDGES.makes("12 " + what, 0, Scene.of(left, right), x -> x.rule(0, 1),
                Scene.of(left, right).rules(left + ">" + right));
    }

    private static void comesNot(String what, String left, String right) {
        EDGES.refused("12 " + what, Scene.of(left, right), x -> x.rule(0, 1));
    }

    private static void ruleLeft() {
        comesNot("left of none", "", "a");
        comesNot("left of none, right of none", "", "");
        comes("left of one", "a", "b");
        comes("left of 6", SIX, "b");
        comesNot("left of 7", SEVEN, "b");
        comesNot("left of 7, right of none", SEVEN, "");
        comesNot("left of 32", A32, "b");
        EDGES.refused("12 the same rope of none", Scene.of("a"), x -> x.rule(1, 1));
        EDGES.refused("12 the same rope of 7", Scene.of(SEVEN), x -> x.rule(0, 0));
        EDGES.makes("12 the same rope of 6", 0, Scene.of(SIX), x -> x.rule(0, 0),
                Scene.of(SIX).rules(SIX + ">" + SIX));
    }

    private static void ruleRight() {
        comes("right of none", "a", "");
        comes("right of none, left of 6", SIX, "");
        comes("right of one", "b", "a");
        comes("right of 6", "b", SIX);
        comes("both of 6", SIX, "dddddd");
        comesNot("right of 7", "b", SEVEN);
        comesNot("right of 7, left of 6", SIX, SEVEN);
        comesNot("right of 32", "b", A32);
        comesNot("both of 7", SEVEN, "dddddda");
        EDGES.makes("12 the last rope", 0, Scene.of("", "", "b", "a"), x -> x.rule(3, 2),
                Scene.of("", "", "b", "a").rules("a>b"));
    }

    private static void fallingSame() {
        EDGES.refused("13 the same rope", Scene.of("a"), x -> x.falling(0, 0));
        EDGES.refused("13 the same text", Scene.of("ab", "", "", "ab"), x -> x.falling(0, 3));
        EDGES.refused("13 none and none", Scene.of("ab"), x -> x.falling(1, 2));
        EDGES.refused("13 the same 32", Scene.of(A32, A32), x -> x.falling(0, 1));
        EDGES.makes("13 almost the same", 0, Scene.of("abcdaa", "abcdab"), x -> x.falling(0, 1),
                Scene.of("abcdaa", "abcdab").rules("abcdab>abcdaa"));
    }

    /** It comes whichever rope is told first. */
    private static void fallsInto(String what, String left, String right) {
        Scene then = Scene.of(left, right).rules(left + ">" + right);
        EDGES.makes("13 " + what, 0, Scene.of(left, right), x -> x.falling(0, 1), then);
        EDGES.makes("13 " + what + ", the other way round", 0, Scene.of(left, right),
                x -> x.falling(1, 0), then);
    }

    private static void fallsNot(String what, String left, String right) {
        EDGES.refused("13 " + what, Scene.of(left, right), x -> x.falling(0, 1));
        EDGES.refused("13 " + what + ", the other way round", Scene.of(left, right),
                x -> x.falling(1, 0));
    }

    private static void fallingSides() {
        fallsInto("one and none", "a", "");
        fallsInto("6 and none", SIX, "");
        fallsInto("longer, of lesser letters", "aa", "d");
        fallsInto("6 and 5", "aaaaaa", "ddddd");
        fallsInto("6 and 6, the last letter", "aaaaab", "aaaaaa");
        fallsInto("6 and 6, the first letter", "baaaaa", "addddd");
        fallsNot("7 and 6", SEVEN, SIX);
        fallsNot("7 and none", SEVEN, "");
        fallsNot("7 and 7", "aaaaaab", "aaaaaaa");
        fallsNot("32 and one", A32, "a");
    }

    private static void drop() {
        Scene scene = Scene.of("a").rules("a>b", "b>c", "c>d");
        EDGES.noPlaceBeside("14 drop", 3, scene, (x, n) -> x.drop(n));
        EDGES.noPlaceBeside("14 drop of none", 0, Scene.of("a"), (x, n) -> x.drop(n));
        EDGES.makes("14 the first one", 2, scene, x -> x.drop(0),
                Scene.of("a").rules("b>c", "c>d"));
        EDGES.makes("14 within", 2, scene, x -> x.drop(1), Scene.of("a").rules("a>b", "c>d"));
        EDGES.makes("14 the last one", 2, scene, x -> x.drop(2), Scene.of("a").rules("a>b", "b>c"));
        EDGES.makes("14 the only one", 0, Scene.of("a").rules("a>b"), x -> x.drop(0),
                Scene.of("a"));
        String[] all = {"a>", "b>a", "c>b", "d>c", "aa>b", "bb>a", "cc>d", "dd>a"};
        Scene eight = Scene.of("abcd").rules(all);
        EDGES.noPlaceBeside("14 drop of 8", 8, eight, (x, n) -> x.drop(n));
        EDGES.makes("14 the first one of 8", 7, eight, x -> x.drop(0),
                Scene.of("abcd").rules("b>a", "c>b", "d>c", "aa>b", "bb>a", "cc>d", "dd>a"));
        EDGES.makes("14 the last one of 8", 7, eight, x -> x.drop(7),
                Scene.of("abcd").rules("a>", "b>a", "c>b", "d>c", "aa>b", "bb>a", "cc>d"));
    }

    private static void noRules() {
        EDGES.makes("15 none", 0, Scene.of("a"), Rewriterope::noRules, Scene.of("a"));
        EDGES.makes("15 one", 1, Scene.of("a").rules("a>"), Rewriterope::noRules, Scene.of("a"));
        EDGES.makes("15 eight", 8, Scene.of("a").eight("a>"), Rewriterope::noRules, Scene.of("a"));
    }

    private static void flips(String what, int want, String rule, String then) {
        EDGES.makes("16 " + what, want, Scene.of("ab").rules("aa>b", rule),
                x -> x.flip(1), Scene.of("ab").rules("aa>b", then));
    }

    private static void flip() {
        Scene scene = Scene.of("a").rules("a>b", "b>", "c>d");
        EDGES.noPlaceBeside("16 flip", 3, scene, (x, n) -> x.flip(n));
        EDGES.noPlaceBeside("16 flip of none", 0, Scene.of("a"), (x, n) -> x.flip(n));
        EDGES.noPlaceBeside("16 flip of 8", 8, Scene.of("a").eight("a>"), (x, n) -> x.flip(n));
        flips("it falls then", 1, "a>b", "b>a");
        flips("it falls no more", 0, "b>a", "a>b");
        flips("the same text falls not", 0, "ab>ab", "ab>ab");
        flips("longer then", 0, "ab>c", "c>ab");
        flips("shorter then", 1, "c>ab", "ab>c");
        flips("the last letter of 6, lesser", 1, "aaaaaa>aaaaab", "aaaaab>aaaaaa");
        flips("the last letter of 6, greater", 0, "aaaaab>aaaaaa", "aaaaaa>aaaaab");
        flips("one and 6", 1, "d>aaaaaa", "aaaaaa>d");
        EDGES.makes("16 the last one of 8", 1, Scene.of("a").eight("c>d"), x -> x.flip(7),
                Scene.of("a").rules("c>d", "c>d", "c>d", "c>d", "c>d", "c>d", "c>d", "d>c"));
    }

    private static void flipRefused() {
        EDGES.refused("16 right of none", Scene.of("a").rules("a>b", "b>", "c>d"), x -> x.flip(1));
        EDGES.refused("16 right of none, left of 6", Scene.of("a").rules(SIX + ">"),
                x -> x.flip(0));
        EDGES.refused("16 right of none, the last one of 8", Scene.of("a").eight("a>"),
                x -> x.flip(7));
        flips("right of one", 0, "cd>a", "a>cd");
    }

    private static void side() {
        Scene scene = Scene.of("abc", "", A32).rules("a>", SIX + ">dddddd", "b>" + SIX);
        String[] rules = {"a>", SIX + ">dddddd", "b>" + SIX};
        EDGES.noRope("17 side", scene, (x, n) -> x.side(n, 0, false));
        EDGES.noRope("17 side, right", scene, (x, n) -> x.side(n, 0, true));
        EDGES.noPlaceBeside("17 rule", 3, scene, (x, n) -> x.side(0, n, false));
        EDGES.noPlaceBeside("17 rule, right", 3, scene, (x, n) -> x.side(0, n, true));
        EDGES.noPlaceBeside("17 rule of none", 0, Scene.of("ab"), (x, n) -> x.side(0, n, true));
        EDGES.makes("17 left of one", 1, scene, x -> x.side(0, 0, false),
                Scene.of("a", "", A32).rules(rules));
        EDGES.makes("17 right of none", 0, scene, x -> x.side(0, 0, true),
                Scene.of("", "", A32).rules(rules));
        EDGES.makes("17 left of 6 over 32", 6, scene, x -> x.side(2, 1, false),
                Scene.of("abc", "", SIX).rules(rules));
        EDGES.makes("17 right of 6 over none", 6, scene, x -> x.side(1, 1, true),
                Scene.of("abc", "dddddd", A32).rules(rules));
        EDGES.makes("17 the last rule", 6, scene, x -> x.side(3, 2, true),
                Scene.of("abc", "", A32, SIX).rules(rules));
        EDGES.makes("17 the last one of 8", 2, Scene.of().eight("a>bc"), x -> x.side(0, 7, true),
                Scene.of("bc").eight("a>bc"));
    }

    private static void rulesAndTheirTexts() {
        Scene scene = Scene.of("a").rules("a>", "bbbbbb>cccccc", "d>d");
        EDGES.answers("18 none", 0, Scene.of("a"), Rewriterope::rules);
        EDGES.answers("18 three", 3, scene, Rewriterope::rules);
        EDGES.answers("18 eight", 8, Scene.of("a").eight("a>"), Rewriterope::rules);
        EDGES.noPlaceBeside("19 ruleText", 3, scene, (x, n) -> x.ruleText(n));
        EDGES.noPlaceBeside("19 ruleText of none", 0, Scene.of("a"), (x, n) -> x.ruleText(n));
        EDGES.noPlaceBeside("19 ruleText of 8", 8, Scene.of().eight("a>"), (x, n) -> x.ruleText(n));
        EDGES.answers("19 right of none", "a>", scene, x -> x.ruleText(0));
        EDGES.answers("19 both of 6", "bbbbbb>cccccc", scene, x -> x.ruleText(1));
        EDGES.answers("19 both the same", "d>d", scene, x -> x.ruleText(2));
        EDGES.answers("19 the last one of 8", "c>dd", Scene.of().eight("c>dd"), x -> x.ruleText(7));
    }

    private static void falls(String rule, boolean want) {
        EDGES.answers("20 " + rule, want, Scene.of("a").rules("b>a", rule), x -> x.falls(1));
        EDGES.answers("21 " + rule, want, Scene.of("a").rules("b>a", rule),
                Rewriterope::areFalling);
    }

    private static void falls() {
        Scene scene = Scene.of("a").rules("a>b", "b>a");
        EDGES.noPlaceBeside("20 falls", 2, scene, (x, n) -> x.falls(n));
        EDGES.noPlaceBeside("20 falls of none", 0, Scene.of("a"), (x, n) -> x.falls(n));
        EDGES.noPlaceBeside("20 falls of 8", 8, Scene.of().eight("a>"), (x, n) -> x.falls(n));
        falls("a>", true);
        falls("aaaaaa>", true);
        falls("a>a", false);
        falls("a>b", false);
        falls("b>a", true);
        falls("aa>d", true);
        falls("d>aa", false);
        falls("aaaaab>aaaaaa", true);
        falls("aaaaaa>aaaaab", false);
        falls("dddddd>dddddd", false);
        falls("baaaaa>addddd", true);
        falls("addddd>baaaaa", false);
        falls("aaaaaa>ddddd", true);
        falls("ddddd>aaaaaa", false);
    }

    private static void areFalling() {
        String no = "a>a";
        String it = "b>a";
        EDGES.answers("21 without rules", true, Scene.of("a"), Rewriterope::areFalling);
        EDGES.answers("21 one", true, Scene.of("a").rules(it), Rewriterope::areFalling);
        EDGES.answers("21 eight", true, Scene.of("a").eight(it), Rewriterope::areFalling);
        EDGES.answers("21 not the first of 8", false,
                Scene.of("a").rules(no, it, it, it, it, it, it, it), Rewriterope::areFalling);
        EDGES.answers("21 not the last of 8", false,
                Scene.of("a").rules(it, it, it, it, it, it, it, no), Rewriterope::areFalling);
    }
}

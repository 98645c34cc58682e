/** The edges that promises 31 to 36 name: each sentence with what is just within it and just not. */
public final class PeaksEdgesTest {
    private static final Edges EDGES = new Edges();
    private static final String A32 = Due.times("a", 32);

    public static void main(String[] args) {
        peaksOfNoRules();
        peaksByOverlap();
        peaksByPlace();
        mostPeaks();
        peakNumber();
        peakSides();
        meetsNumber();
        meetsByForm();
        meetsByTheFortieth();
        unmet();
        completeNone();
        completeRules();
        completeLetters();
        completeByTheFortieth();
        tidyRules();
        tidyLetters();
        tidySpots();
        tidyByTheFortieth();
        changesOneAfterTheOther();
        EDGES.end("PeaksEdgesTest");
    }

    /** How many peaks there are, and each of them. */
    private static void peaks(String what, String want, String... rules) {
        Scene scene = Scene.of("ab").rules(rules);
        String[] each = want.isEmpty() ? new String[0] : want.split(" ");
        EDGES.answers("31 " + what, each.length, scene, Rewriterope::peaks);
        for (int i = 0; i < each.length; i++) {
            int peak = i;
            EDGES.answers("32 " + what + ", " + peak, each[i], scene, x -> x.peak(peak));
        }
        for (int wrong : Edges.beside(0, each.length - 1)) {
            EDGES.answers("32 " + what + ", " + wrong, "", scene, x -> x.peak(wrong));
        }
    }

    private static void peaksOfNoRules() {
        peaks("without rules", "");
        peaks("one rule that does not overlap itself", "", "ab>c");
        peaks("one rule of one letter", "", "a>b");
        peaks("rules of one letter, other ones", "", "a>b", "b>c", "c>d");
    }

    private static void peaksByOverlap() {
        peaks("k is 1, less than 2", "aaa:ba|ab", "aa>b");
        peaks("k is 1 and 2, not 3", "aaaaa:baa|aab aaaa:ba|ab", "aaa>b");
        peaks("k is less than the shorter one",
                "aaa:ba|ab aaaa:baa|ac aaaa:ca|aab aaa:c|ba aaa:c|ab aaaaa:caa|aac aaaa:ca|ac",
                "aa>b", "aaa>c");
        peaks("k is not all of one letter", "ab:c|ad", "ab>c", "b>d");
        peaks("the last k letters, not others", "abcab:dab|abd cabc:dc|cd", "abc>d", "cab>d");
        peaks("only one behind the other", "abc:c|a", "ab>", "bc>");
        peaks("k of 2 alone", "abcdabcdab:dcdab|abcdd", "abcdab>d");
        peaks("k of 5 alone", "abcdddc:ac|ab", "abcddd>a", "bcdddc>b");
    }

    private static void peaksByPlace() {
        peaks("not a rule in itself", "", "abc>d");
        peaks("at the first place", "abbbbb:d|cbbbbb", "abbbbb>d", "a>c");
        peaks("at the last place", "bbbbba:d|bbbbbc", "bbbbba>d", "a>c");
        peaks("at each place, behind all overlaps", "aaaaa:daa|aad aaaa:da|ad "
                + "aaa:d|caa aaa:d|aca aaa:d|aac", "aaa>d", "a>c");
        peaks("all of it", "a:b|c a:c|b", "a>b", "a>c");
        peaks("all of it, of 6", "abbbbb:c|d abbbbb:d|c", "abbbbb>c", "abbbbb>d");
        peaks("the same rule twice", "ab:c|c ab:c|c", "ab>c", "ab>c");
        peaks("the longer one not in the shorter one", "ab:d|ac", "b>c", "ab>d");
    }

    private static void mostPeaks() {
        Scene one = Scene.of("a").eight("a>b");
        EDGES.answers("31 eight of one letter", 56, one, Rewriterope::peaks);
        EDGES.answers("32 the last one", "a:b|b", one, x -> x.peak(55));
        EDGES.answers("32 one behind it", "", one, x -> x.peak(56));
        Scene six = Scene.of("a").eight("aaaaaa>");
        EDGES.answers("31 eight of 6 letters", 376, six, Rewriterope::peaks);
        EDGES.answers("32 the first one", "aaaaaaaaaaa:aaaaa|aaaaa", six, x -> x.peak(0));
        EDGES.answers("32 the last one", "aaaaaaa:a|a", six, x -> x.peak(375));
        EDGES.answers("32 one behind it", "", six, x -> x.peak(376));
        EDGES.answers("33 the last one", true, six, x -> x.meets(375));
        EDGES.noPlace("33 one behind it", six, x -> x.meets(376));
    }

    private static void peakNumber() {
        Scene scene = Scene.of("ab").rules("ab>c", "ba>d", "a>");
        String[] want = {"aba:ca|ad", "ab:c|b", "bab:db|bc", "ba:d|b"};
        for (int i = 0; i < want.length; i++) {
            int peak = i;
            EDGES.answers("32 peak " + peak, want[i], scene, x -> x.peak(peak));
        }
        for (int wrong : Edges.beside(0, 3)) {
            EDGES.answers("32 peak " + wrong, "", scene, x -> x.peak(wrong));
        }
        for (int wrong : Edges.beside(0, -1)) {
            EDGES.answers("32 peak " + wrong + " of none", "", Scene.of("ab"), x -> x.peak(wrong));
        }
    }

    private static void peakSides() {
        EDGES.answers("32 11 letters, sides of 11", "bacadaabbcc:ddddddabbcc|bacadcccccc",
                Scene.of("a").rules("bacada>dddddd", "aabbcc>cccccc"), x -> x.peak(0));
        EDGES.answers("32 11 letters, sides of 5", "bacadaabbcc:abbcc|bacad",
                Scene.of("a").rules("bacada>", "aabbcc>"), x -> x.peak(0));
        EDGES.answers("32 7 letters, sides of one", "aaaaaaa:a|a", Scene.of("a").rules("aaaaaa>"),
                x -> x.peak(4));
        EDGES.answers("32 one letter, no side", "a:|", Scene.of("a").rules("a>", "a>"),
                x -> x.peak(1));
        EDGES.answers("32 6 letters, sides of 6 and 10", "abcdab:dddddd|abccccccab",
                Scene.of("a").rules("abcdab>dddddd", "cd>cccccc"), x -> x.peak(1));
    }

    private static void meetsNumber() {
        Scene scene = Scene.of("ab").rules("aaa>b", "baa>aab");
        EDGES.answers("33 the first one", true, scene, x -> x.meets(0));
        EDGES.answers("33 the second one", false, scene, x -> x.meets(1));
        EDGES.answers("33 the last one", false, scene, x -> x.meets(3));
        EDGES.noPlaceBeside("33 meets", 4, scene, (x, n) -> x.meets(n));
        EDGES.noPlaceBeside("33 meets without rules", 0, Scene.of("ab"), (x, n) -> x.meets(n));
        EDGES.noPlaceBeside("33 meets without peaks", 0, Scene.of("ab").rules("a>b"),
                (x, n) -> x.meets(n));
    }

    private static void meetsByForm() {
        meets("the sides are the same", true, "a>b", "a>b");
        meets("both sides are none", true, "a>", "a>");
        meets("one side is none", false, "a>", "a>b");
        meets("one side comes to the other one", true, "a>b", "a>c", "c>b");
        meets("other ends", false, "a>b", "a>c");
        meets("both come to 32 letters", true, "b>dddddc", "b>cddddd", "d>aaaaaa", "c>aa");
        meets("both would come to 33", false, "b>dddddc", "b>cddddd", "d>aaaaaa", "c>aaa");
    }

    /** Whether the first peak meets; if not, it is the first one that does not. */
    private static void meets(String what, boolean want, String... rules) {
        Scene scene = Scene.of("ab").rules(rules);
        EDGES.answers("33 " + what, want, scene, x -> x.meets(0));
        EDGES.answers("34 " + what, want ? -1 : 0, scene, Rewriterope::unmet);
    }

    /**
     * By these rules "ddddca" and "ddddac" come to 28 times "a" by 40 steps, "ddddcb" by 41; so each
     * of them is told apart when one step less, or one step more, were made.
     */
    private static void meetsByTheFortieth() {
        String[] short40 = {"d>cc", "c>bbb", "b>a", "ca>ddddca", "ca>ddddac"};
        String[] long41 = {"d>cc", "c>bbb", "b>a", "ca>ddddca", "ca>ddddcb"};
        Scene meeting = Scene.of("ddddca", "ddddac").rules(short40);
        Scene not = Scene.of("ddddca", "ddddcb").rules(long41);
        String a28 = Due.times("a", 28);
        String a27b = Due.times("a", 27) + "b";
        EDGES.answers("29 an end by 40 steps", a28, meeting, x -> x.form(0));
        EDGES.answers("29 another one", a28, meeting, x -> x.form(1));
        EDGES.answers("29 40 of 41 steps", a27b, not, x -> x.form(1));
        EDGES.answers("32 its sides", "ca:ddddca|ddddac", meeting, x -> x.peak(1));
        EDGES.answers("33 by 40 steps", true, meeting, x -> x.meets(1));
        EDGES.answers("32 its sides", "ca:ddddca|ddddcb", not, x -> x.peak(1));
        EDGES.answers("33 not by 41 steps", false, not, x -> x.meets(1));
    }

    private static void unmet() {
        EDGES.answers("34 without rules", -1, Scene.of("a"), Rewriterope::unmet);
        EDGES.answers("34 without peaks", -1, Scene.of("a").rules("a>b"), Rewriterope::unmet);
        EDGES.answers("34 all meet", -1, Scene.of("a").rules("a>b", "a>b"), Rewriterope::unmet);
        EDGES.answers("34 the first one", 0, Scene.of("a").rules("a>b", "a>c"), Rewriterope::unmet);
        Scene last = Scene.of("a").rules("aa>", "bb>c");
        EDGES.answers("31 two peaks", 2, last, Rewriterope::peaks);
        EDGES.answers("34 the last one alone", 1, last, Rewriterope::unmet);
        EDGES.answers("34 the first one of two", 0, Scene.of("a").rules("bb>c", "aa>"),
                Rewriterope::unmet);
        EDGES.answers("34 eight rules, all meet", -1, Scene.of("a").eight("aaaaaa>"),
                Rewriterope::unmet);
    }

    private static void completeNone() {
        EDGES.answers("35 without rules", -1, Scene.of("a"), Rewriterope::complete);
        EDGES.answers("35 without peaks", -1, Scene.of("a").rules("a>b"), Rewriterope::complete);
        EDGES.answers("35 all meet", -1, Scene.of("a").rules("a>b", "a>b"), Rewriterope::complete);
        EDGES.answers("35 all meet, 8 rules", -1, Scene.of("a").eight("a>b"), Rewriterope::complete);
        Scene apart = Scene.of("a").rules("ad>", "abd>", "acd>", "abbd>", "abcd>", "acbd>", "accd>",
                "abbbd>");
        EDGES.answers("31 no peaks of 8 rules", 0, apart, Rewriterope::peaks);
        EDGES.answers("35 no peaks, 8 rules", -1, apart, Rewriterope::complete);
    }

    private static void comes(String what, int number, String rule, String... rules) {
        String[] then = java.util.Arrays.copyOf(rules, rules.length + 1);
        then[rules.length] = rule;
        EDGES.makes("35 " + what, number, Scene.of("ab").rules(rules), Rewriterope::complete,
                Scene.of("ab").rules(then));
    }

    private static void comesNot(String what, String... rules) {
        EDGES.refused("35 " + what, Scene.of("ab").rules(rules), Rewriterope::complete);
    }

    private static void completeRules() {
        comes("behind two", 2, "c>b", "a>b", "a>c");
        comes("the eighth one", 7, "c>b", "a>b", "a>c", "d>d", "d>d", "d>d", "d>d", "d>d");
        comesNot("the ninth one", "a>b", "a>c", "d>d", "d>d", "d>d", "d>d", "d>d", "d>d");
        comesNot("the ninth one, of 7 letters", "ab>cccc", "bddd>d", "a>a", "a>a", "a>a", "a>a",
                "a>a", "a>a");
    }

    private static void completeLetters() {
        comes("one and none", 2, "b>", "a>", "a>b");
        comes("none and one", 2, "b>", "a>b", "a>");
        comes("6 and none", 2, "bbbbbb>", "a>", "a>bbbbbb");
        comes("6 and 6, the last letter", 2, "bbbbbc>bbbbbb", "a>bbbbbb", "a>bbbbbc");
        comes("6 and 6, the other side", 2, "bbbbbc>bbbbbb", "a>bbbbbc", "a>bbbbbb");
        comes("6 and 5", 2, "bbbbbb>ddddd", "a>bbbbbb", "a>ddddd");
        comes("6 by forms", 3, "cccccc>d", "b>ccc", "a>bb", "a>d");
        comesNot("7 by forms", "b>ccc", "a>bbc", "a>d");
        comesNot("7 by forms, the other side", "b>ccc", "a>d", "a>bbc");
        comesNot("7 and none", "b>ccc", "a>bbc", "a>");
        comesNot("7 and 7", "b>ccc", "a>bbc", "a>bbd");
        comes("7 that come to 6", 2, "cccddd>ad", "ab>ccc", "bddd>d");
        comesNot("7 that stay 7", "ab>cccc", "bddd>d");
    }

    /** A form that is no end, by 40 steps: one more or one less would bring another rule. */
    private static void completeByTheFortieth() {
        comes("40 steps", 4, "dd>a", "a>b", "b>a", "c>a", "c>dd");
        comes("40 steps, the other one", 4, "dd>b", "a>b", "b>a", "c>b", "c>dd");
    }

    private static void tidied(String what, int want, String then, String... rules) {
        String[] all = then.isEmpty() ? new String[0] : then.split(" ");
        EDGES.makes("36 " + what, want, Scene.of("ab").rules(rules), Rewriterope::tidy,
                Scene.of("ab").rules(all));
    }

    private static void tidyRules() {
        String it = "a>b";
        tidied("without rules", 0, "");
        tidied("one", 0, "a>b", it);
        tidied("one, both sides the same", 0, "a>a", "a>a");
        tidied("one, its left in its right", 0, "a>aa", "a>aa");
        tidied("two the same", 1, "a>b", it, it);
        tidied("eight the same", 7, "a>b", it, it, it, it, it, it, it, it);
        tidied("the last one goes, not the first", 1, "a>b c>b", "a>b", "c>b", "ac>bb");
        tidied("the first one goes", 1, "a>b c>b", "ac>bb", "a>b", "c>b");
        tidied("the last one of 8", 1, "a>b d>b d>bb d>bbb d>bbbb d>bbbbb d>bbbbbb c>b",
                "a>b", "d>b", "d>bb", "d>bbb", "d>bbbb", "d>bbbbb", "d>bbbbbb", "c>a");
        tidied("the first one of 8", 1, "c>b d>b d>bb d>bbb d>bbbb d>bbbbb d>bbbbbb a>b",
                "c>a", "d>b", "d>bb", "d>bbb", "d>bbbb", "d>bbbbb", "d>bbbbbb", "a>b");
        tidied("the last one first", 1, "a>b b>b", "a>b", "b>a");
        tidied("with those behind it as they are then", 2, "a>d b>d c>d", "a>b", "b>c", "c>d");
    }

    private static void tidyLetters() {
        tidied("to 6 letters", 1, "b>aaaaaa c>aaa", "b>cc", "c>aaa");
        tidied("not to 7 letters", 0, "b>cca c>aaa", "b>cca", "c>aaa");
        tidied("not to 32 letters", 0, "b>c c>ca", "b>c", "c>ca");
        tidied("to none", 1, "b> c>", "b>cc", "c>");
        tidied("6 to none", 1, "b> c>", "b>cccccc", "c>");
        tidied("none stays none", 0, "b> c>", "b>", "c>");
        tidied("6 stay 6", 0, "b>dddddd c>a", "b>dddddd", "c>a");
        tidied("to its left", 1, "b>c c>c", "b>c", "c>b");
        tidied("to its left of 6", 1, "bbbbbb>bbbbbb c>bbb", "bbbbbb>cc", "c>bbb");
    }

    private static void tidySpots() {
        tidied("a spot at the end, the same forms", 1, "a>", "ba>b", "a>");
        tidied("a spot in front, the same forms", 1, "a>", "ab>b", "a>");
        tidied("a spot by a rule ahead, the same forms", 1, "a>b", "a>b", "ca>cb");
        tidied("a spot, other forms", 0, "ba>c a>", "ba>c", "a>");
        tidied("a spot, other forms: its right stays", 0, "ba>ca a>", "ba>ca", "a>");
        tidied("a spot by itself alone is none", 0, "aa>a b>c", "aa>a", "b>c");
        tidied("both sides the same text, a spot", 1, "a>b", "a>b", "ac>ac");
        tidied("both sides the same text, no spot", 0, "a>b c>c", "a>b", "c>c");
    }

    private static void tidyByTheFortieth() {
        tidied("40 steps, not 39 nor 41", 1, "a>b b>b c>a", "a>b", "b>a", "c>a");
        tidied("forms that are no ends", 2, "a>b b>b", "a>b", "b>a", "aa>aa");
    }

    private static int change(Rewriterope x, int which) {
        switch (which) {
            case 0:
                return x.rules() == 0 ? 0 : x.drop(0);
            case 1:
                return x.noRules();
            case 2:
                return x.rules() < 2 ? 0 : x.flip(1);
            case 3:
                return x.rule(0, 1);
            case 4:
                return x.falling(2, 3);
            case 5:
                return x.complete();
            case 6:
                return x.tidy();
            default:
                return x.rules() == 0 ? 0 : x.flip(0);
        }
    }

    /** What is told of peaks is that of the rules as they are, whatever has changed them. */
    private static void changesOneAfterTheOther() {
        for (int changes = 0; changes < 8 * 8 * 8; changes++) {
            String[] texts = {"ab", "ca", "c", "ba"};
            Scene scene = Scene.of(texts).rules("ab>c", "b>ca", "ca>d").counted(0, 0, 0);
            Rewriterope x = scene.make();
            Scene.toldOf(x);
            change(x, changes % 8);
            isAsNew(x, texts, "one of changes " + changes);
            change(x, changes / 8 % 8);
            change(x, changes / 64);
            isAsNew(x, texts, "all of changes " + changes);
        }
    }

    private static void isAsNew(Rewriterope x, String[] texts, String what) {
        String rules = Due.rulesOf(x);
        Scene then = Scene.of(texts).counted(x.house(0), 0, 0);
        then.rules(rules.isEmpty() ? new String[0] : rules.split(" "));
        EDGES.is("31 to 34, " + what, then.told(), () -> Scene.toldOf(x));
    }
}

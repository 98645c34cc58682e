/** Promises 22 to 30: steps, spots, forms, and what is told of two ropes. */
public final class StepsTest {
    private static final Due DUE = new Due();

    public static void main(String[] args) {
        step();
        stepThatDoesNotFit();
        run();
        pick();
        unwind();
        spots();
        spot();
        isEnd();
        form();
        told();
        DUE.end("StepsTest");
    }

    private static Rewriterope with(String text, String... rules) {
        Rewriterope x = Due.withRules(rules);
        Due.put(x, 2, text);
        return x;
    }

    private static void stepBy(int way, int place, String text) {
        Rewriterope x = with("cabcab", "ab>d", "a>b", "bc>", "cab>c");
        DUE.is("step by way " + way, place, () -> x.step(2, way));
        DUE.is("stepped by way " + way, text, () -> x.text(2));
        DUE.is("steps made", 1, () -> x.house(3));
    }

    private static void step() {
        stepBy(0, 0, "ccab");
        stepBy(1, 4, "cabcd");
        stepBy(2, 1, "cdcab");
        Rewriterope x = with("bb", "a>b", "ab>");
        DUE.is("an end", -1, () -> x.step(2, 0));
        DUE.is("an end", -1, () -> x.step(2, 1));
        DUE.is("an end", -1, () -> x.step(2, 2));
        DUE.is("a rope of none", -1, () -> x.step(3, 0));
        DUE.is("no step was made", 0, () -> x.house(3));
        DUE.is("nothing was refused", 0, () -> x.house(0));
        Rewriterope y = with("cab", "ab>c", "a>d");
        DUE.is("at one place the lesser rule", 1, () -> y.step(2, 0));
        DUE.is("stepped", "cc", () -> y.text(2));
        DUE.noPlace("rope 4", () -> x.step(4, 0));
        DUE.noPlace("rope -1", () -> x.step(-1, 0));
        DUE.noPlace("rope goes ahead of way", () -> x.step(4, 3));
        DUE.noWord("way 3", () -> x.step(0, 3));
        DUE.noWord("way -1", () -> x.step(0, -1));
    }

    private static void stepThatDoesNotFit() {
        Rewriterope x = with(Due.times("b", 30) + "a", "a>aaa");
        DUE.is("33 letters", -9, () -> x.step(2, 0));
        DUE.is("nothing changes", Due.times("b", 30) + "a", () -> x.text(2));
        DUE.is("no step was made", 0, () -> x.house(3));
        DUE.is("refusals", 1, () -> x.house(0));
        x.cut(2, 0, 1);
        DUE.is("32 letters", 29, () -> x.step(2, 0));
        DUE.is("stepped", Due.times("b", 29) + "aaa", () -> x.text(2));
        Rewriterope y = with("a" + Due.times("b", 31), "a>cc", "b>");
        DUE.is("the way alone tells the spot", -9, () -> y.step(2, 0));
        DUE.is("the way alone tells the spot", -9, () -> y.step(2, 2));
        DUE.is("the last one fits", 31, () -> y.step(2, 1));
    }

    private static void runBy(int way, int most, int made, String text) {
        Rewriterope x = with("aabab", "ab>c", "a>d", "ca>b");
        DUE.is("run by way " + way, made, () -> x.run(2, way, most));
        DUE.is("run by way " + way, text, () -> x.text(2));
        DUE.is("steps of way " + way, made, () -> x.house(3));
    }

    private static void run() {
        runBy(0, 40, 3, "dbb");
        runBy(1, 40, 3, "dcc");
        runBy(2, 40, 3, "dcc");
        runBy(0, 1, 1, "dabab");
        runBy(1, 1, 1, "aabc");
        runBy(2, 1, 1, "acab");
        Rewriterope x = with("a", "a>a");
        DUE.is("40 at most", 40, () -> x.run(2, 0, 40));
        DUE.is("just so many", 7, () -> x.run(2, 1, 7));
        DUE.is("steps made", 47, () -> x.house(3));
        DUE.is("an end", 0, () -> x.run(3, 0, 5));
        Rewriterope y = with("a", "a>aaa");
        DUE.is("31 letters and no more", 15, () -> y.run(2, 2, 40));
        DUE.is("31 letters and no more", 31, () -> y.text(2).length());
        DUE.is("it does not fit", 0, () -> y.run(2, 2, 40));
        DUE.is("nothing was refused", 0, () -> y.house(0));
        DUE.noPlace("rope 4", () -> x.run(4, 0, 1));
        DUE.noPlace("rope -1", () -> x.run(-1, 0, 1));
        DUE.noPlace("rope goes ahead of way", () -> x.run(4, 3, 0));
        DUE.noWord("way 3", () -> x.run(2, 3, 1));
        DUE.noWord("way -1", () -> x.run(2, -1, 1));
        DUE.noWord("most 0", () -> x.run(2, 0, 0));
        DUE.noWord("most 41", () -> x.run(2, 0, 41));
        DUE.noWord("most -1", () -> x.run(2, 0, -1));
        DUE.is("no step was made", 47, () -> x.house(3));
    }

    private static void pick() {
        Rewriterope x = with("abab", "ab>c", "a>dddd");
        DUE.is("pick", 3, () -> x.pick(2, 2));
        DUE.is("picked", "abc", () -> x.text(2));
        DUE.is("pick the greater rule", 6, () -> x.pick(2, 1));
        DUE.is("picked", "ddddbc", () -> x.text(2));
        DUE.is("steps made", 2, () -> x.house(3));
        DUE.is("no such spot", -9, () -> x.pick(2, 0));
        DUE.is("a rope of none", -9, () -> x.pick(3, 0));
        Due.put(x, 2, "abab");
        DUE.is("spot -1", -9, () -> x.pick(2, -1));
        DUE.is("spot 4", -9, () -> x.pick(2, 4));
        DUE.is("the greatest number", -9, () -> x.pick(2, Integer.MAX_VALUE));
        DUE.is("the least number", -9, () -> x.pick(2, Integer.MIN_VALUE));
        DUE.is("refusals", 6, () -> x.house(0));
        Due.put(x, 2, Due.times("b", 29) + "a");
        DUE.is("33 letters", -9, () -> x.pick(2, 0));
        x.cut(2, 0, 1);
        DUE.is("32 letters", 32, () -> x.pick(2, 0));
        DUE.is("steps made", 3, () -> x.house(3));
        DUE.is("refusals", 7, () -> x.house(0));
        DUE.noPlace("rope 4", () -> x.pick(4, 0));
        DUE.noPlace("rope -1", () -> x.pick(-1, 0));
    }

    private static void unwind() {
        Rewriterope x = with("aaba", "bcd>aa", "bb>", "d>a");
        DUE.is("only one place", -9, () -> x.unwind(2, 0, 1));
        DUE.is("unwind", 5, () -> x.unwind(2, 0, 0));
        DUE.is("unwound", "bcdba", () -> x.text(2));
        DUE.is("unwind none behind all", 7, () -> x.unwind(2, 1, 5));
        DUE.is("unwound", "bcdbabb", () -> x.text(2));
        DUE.is("not so many places", -9, () -> x.unwind(2, 1, 8));
        DUE.is("unwind none in front", 9, () -> x.unwind(2, 1, 0));
        DUE.is("unwound", "bbbcdbabb", () -> x.text(2));
        DUE.is("place -1", -9, () -> x.unwind(2, 1, -1));
        DUE.is("the greatest number", -9, () -> x.unwind(2, 1, Integer.MAX_VALUE));
        DUE.is("the least number", -9, () -> x.unwind(2, 1, Integer.MIN_VALUE));
        Due.put(x, 2, "aaa");
        DUE.is("the second of places that overlap", 4, () -> x.unwind(2, 0, 1));
        DUE.is("unwound", "abcd", () -> x.text(2));
        DUE.is("a rope of none", 2, () -> x.unwind(3, 1, 0));
        DUE.is("no steps are counted", 0, () -> x.house(3));
        DUE.is("refusals", 5, () -> x.house(0));
        Due.put(x, 2, Due.times("c", 30) + "aa");
        DUE.is("33 letters", -9, () -> x.unwind(2, 0, 0));
        DUE.is("32 letters", 32, () -> x.unwind(2, 2, 1));
        DUE.is("unwound", Due.times("c", 30) + "ad", () -> x.text(2));
        DUE.noPlace("rope 4", () -> x.unwind(4, 0, 0));
        DUE.noPlace("rope -1", () -> x.unwind(-1, 0, 0));
        DUE.noPlace("rule 3", () -> x.unwind(2, 3, 0));
        DUE.noPlace("rule -1", () -> x.unwind(2, -1, 0));
        DUE.noPlace("exceptions go ahead of REFUSED", () -> x.unwind(2, 3, 99));
    }

    private static void spots() {
        Rewriterope x = with("aaba", "a>b", "aa>", "a>b");
        DUE.is("spots", 7, () -> x.spots(2));
        DUE.is("a rope of none", 0, () -> x.spots(3));
        x.noRules();
        DUE.is("without rules", 0, () -> x.spots(2));
        DUE.noPlace("rope 4", () -> x.spots(4));
        DUE.noPlace("rope -1", () -> x.spots(-1));
        String[] same = {"a>b", "a>b", "a>b", "a>b", "a>b", "a>b", "a>b", "a>b"};
        Rewriterope y = with(Due.times("a", 32), same);
        DUE.is("the most spots", 256, () -> y.spots(2));
        DUE.is("the last one", "31 7 " + Due.times("a", 31) + "b", () -> y.spot(2, 255));
        DUE.is("one more", "", () -> y.spot(2, 256));
    }

    private static void spot() {
        Rewriterope x = with("aaba", "a>cc", "aa>");
        DUE.is("spot 0", "0 0 ccaba", () -> x.spot(2, 0));
        DUE.is("spot 1", "0 1 ba", () -> x.spot(2, 1));
        DUE.is("spot 2", "1 0 accba", () -> x.spot(2, 2));
        DUE.is("spot 3", "3 0 aabcc", () -> x.spot(2, 3));
        DUE.is("spot 4", "", () -> x.spot(2, 4));
        DUE.is("spot -1", "", () -> x.spot(2, -1));
        DUE.is("the greatest number", "", () -> x.spot(2, Integer.MAX_VALUE));
        DUE.is("the rope stays", "aaba", () -> x.text(2));
        DUE.is("no steps are counted", 0, () -> x.house(3));
        DUE.is("nothing is refused", 0, () -> x.house(0));
        Rewriterope y = with(Due.times("b", 31) + "a", "c>d", "a>cccccc");
        DUE.is("of any length", "31 1 " + Due.times("b", 31) + "cccccc", () -> y.spot(2, 0));
        Due.put(y, 2, "a");
        DUE.is("all goes", "0 1 cccccc", () -> y.spot(2, 0));
        DUE.noPlace("rope 4", () -> x.spot(4, 0));
        DUE.noPlace("rope -1", () -> x.spot(-1, 0));
    }

    private static void isEnd() {
        Rewriterope x = with("bba", "a>a", "cc>");
        DUE.is("a spot", false, () -> x.isEnd(2));
        x.cut(2, 2, 3);
        DUE.is("no spot", true, () -> x.isEnd(2));
        DUE.is("a rope of none", true, () -> x.isEnd(3));
        DUE.noPlace("rope 4", () -> x.isEnd(4));
        DUE.noPlace("rope -1", () -> x.isEnd(-1));
    }

    private static void form() {
        Rewriterope x = with("cbabac", "ba>ab", "cc>d");
        DUE.is("an end", "caabbc", () -> x.form(2));
        DUE.is("the rope stays", "cbabac", () -> x.text(2));
        DUE.is("no steps are counted", 0, () -> x.house(3));
        DUE.is("a rope of none", "", () -> x.form(3));
        Rewriterope y = with(Due.times("a", 32), "ab>b", "a>c", "cb>b");
        DUE.is("by the way 0", Due.times("c", 32), () -> y.form(2));
        Rewriterope z = with("ba", "a>b", "b>a");
        DUE.is("40 steps at most", "ba", () -> z.form(2));
        Rewriterope v = with("a", "a>aab", "aaa>c");
        DUE.is("33 letters do not fit", "a" + Due.times("ab", 15), () -> v.form(2));
        Rewriterope w = with("ab", "a>aab", "aaa>c");
        DUE.is("32 letters fit", "a" + Due.times("ab", 15) + "b", () -> w.form(2));
        Rewriterope u = with("a" + Due.times("b", 31), "a>cc", "b>");
        DUE.is("another spot that fits is not taken", u.text(2), () -> u.form(2));
        Rewriterope t = with(Due.times("a", 21), "a>b", "b>c");
        DUE.is("40 of 42 steps", Due.times("c", 20) + "a", () -> t.form(2));
        DUE.noPlace("rope 4", () -> x.form(4));
        DUE.noPlace("rope -1", () -> x.form(-1));
    }

    private static int toldOf(String one, String other, String... rules) {
        Rewriterope x = Due.withRules(rules);
        Due.put(x, 2, one);
        Due.put(x, 3, other);
        int told = x.told(2, 3);
        DUE.is("told both ways", told, () -> x.told(3, 2));
        DUE.is("told itself", 1, () -> x.told(2, 2));
        return told;
    }

    private static void told() {
        DUE.is("the same form", 1, () -> toldOf("baab", "abba", "ba>ab"));
        DUE.is("not the same form", 0, () -> toldOf("baab", "abbb", "ba>ab"));
        DUE.is("without rules", 0, () -> toldOf("a", "b"));
        DUE.is("without rules", 1, () -> toldOf("", ""));
        DUE.is("not all fall", -1, () -> toldOf("c", "d", "a>a"));
        DUE.is("not all fall, the same", 1, () -> toldOf("ca", "ca", "a>a"));
        DUE.is("not all meet", -1, () -> toldOf("c", "d", "ab>a", "bc>b"));
        DUE.is("not all meet, the same form", 1, () -> toldOf("abd", "ad", "ab>a", "bc>b"));
        DUE.is("the same form, no ends", 1, () -> toldOf("a", "b", "a>a", "b>a"));
        DUE.is("a form that is no end", -1, () -> toldOf(Due.times("ba", 16), "b", "ba>ab"));
        DUE.is("the other form is no end", -1, () -> toldOf("b", Due.times("ba", 16), "ba>ab"));
        DUE.noPlace("rope 4", () -> new Rewriterope().told(4, 0));
        DUE.noPlace("rope -1", () -> new Rewriterope().told(-1, 0));
        DUE.noPlace("other 4", () -> new Rewriterope().told(0, 4));
        DUE.noPlace("other -1", () -> new Rewriterope().told(0, -1));
    }
}

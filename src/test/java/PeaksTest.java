/** Promises 31 to 36: peaks, and the rules that are added and tidied. */
public final class PeaksTest {
    private static final Due DUE = new Due();

    public static void main(String[] args) {
        overlaps();
        places();
        orderOfPeaks();
        mostPeaks();
        wrongPeaks();
        meets();
        unmet();
        unmetIsTakenAnew();
        complete();
        completeToTheEnd();
        completeRefused();
        tidyByForms();
        tidyGoes();
        tidyOneByOne();
        DUE.end("PeaksTest");
    }

    private static String peaksOf(Rewriterope x) {
        StringBuilder all = new StringBuilder();
        for (int peak = 0; peak < x.peaks(); peak++) {
            all.append(peak == 0 ? "" : " ").append(x.peak(peak));
        }
        return all.toString();
    }

    private static void are(String what, String want, String... rules) {
        Rewriterope x = Due.withRules(rules);
        int size = want.isEmpty() ? 0 : want.split(" ").length;
        DUE.is(what + ", how many", size, x::peaks);
        DUE.is(what, want, () -> peaksOf(x));
        DUE.is(what + ", rules stay", String.join(" ", rules), () -> Due.rulesOf(x));
        DUE.is(what + ", nothing is counted", 0, () -> x.house(0) + x.house(3));
    }

    private static void overlaps() {
        are("without rules", "");
        are("no overlap", "", "ab>c");
        are("one letter with itself", "", "a>b");
        are("of two rules", "abc:dc|ab", "ab>d", "bc>b");
        are("with itself, too", "aaa:ca|ac aab:cb|ad", "aa>c", "ab>d");
        are("by rising k", "aaaaa:baa|aab aaaa:ba|ab", "aaa>b");
        are("of two letters", "ababab:cab|abc", "abab>c");
        are("a right of none", "abcab:dab|ab cabc:c|cd", "abc>d", "cab>");
        String six = "aaaaaaaaaaa:bbbbbbaaaaa|aaaaabbbbbb";
        Rewriterope x = Due.withRules("aaaaaa>bbbbbb");
        DUE.is("the longest one", six, () -> x.peak(0));
        DUE.is("k up to 5", 5, x::peaks);
    }

    private static void places() {
        are("within", "abc:d|aac", "abc>d", "b>a");
        are("in front", "abc:d|dc", "abc>d", "ab>d");
        are("at the end", "abc:d|a", "abc>d", "bc>");
        are("by rising places", "ababa:dba|abd aba:d|cba aba:d|abc", "aba>d", "a>c");
        are("overlaps go ahead", "ababa:dba|abd abab:db|abc aba:d|ca", "aba>d", "ab>c");
        are("the same left", "a:b|c a:c|b", "a>b", "a>c");
        are("the same rule", "a:b|b a:b|b", "a>b", "a>b");
    }

    private static void orderOfPeaks() {
        are("i by i, in it j by j", "aba:ca|ad ab:c|b bab:db|bc ba:d|b", "ab>c", "ba>d", "a>");
        Rewriterope x = Due.withRules("ab>c", "ba>d", "a>");
        x.drop(0);
        DUE.is("after drop", "ba:d|b", () -> peaksOf(x));
        x.flip(0);
        DUE.is("after flip", "", () -> peaksOf(x));
        Due.addRules(x, "ad>");
        DUE.is("after rule", "ad:|aba ad:|d", () -> peaksOf(x));
        x.noRules();
        DUE.is("after noRules", 0, x::peaks);
    }

    private static void mostPeaks() {
        String it = "aaaaaa>b";
        Rewriterope x = Due.withRules(it, it, it, it, it, it, it, it);
        DUE.is("most peaks", 376, x::peaks);
        DUE.is("the first one", "aaaaaaaaaaa:baaaaa|aaaaab", () -> x.peak(0));
        DUE.is("the last of 0 by 0", "aaaaaaa:ba|ab", () -> x.peak(4));
        DUE.is("the first of 0 by 1", "aaaaaaaaaaa:baaaaa|aaaaab", () -> x.peak(5));
        DUE.is("the last of 0 by 1", "aaaaaa:b|b", () -> x.peak(10));
        DUE.is("the last one", "aaaaaaa:ba|ab", () -> x.peak(375));
        DUE.is("one more", "", () -> x.peak(376));
        DUE.is("the last of 0 by 1 meets", true, () -> x.meets(10));
        DUE.is("the last one does not", false, () -> x.meets(375));
    }

    private static void wrongPeaks() {
        Rewriterope x = Due.withRules("aaa>b");
        int[] wrong = {-1, 2, Integer.MIN_VALUE, Integer.MAX_VALUE};
        for (int peak : wrong) {
            DUE.is("peak " + peak, "", () -> x.peak(peak));
            DUE.noPlace("meets " + peak, () -> x.meets(peak));
        }
        DUE.is("no peak", "", () -> new Rewriterope().peak(0));
        DUE.noPlace("no peak", () -> new Rewriterope().meets(0));
    }

    private static void meets() {
        Rewriterope x = Due.withRules("aaa>b", "baa>aab");
        DUE.is("meets by a step", true, () -> x.meets(0));
        DUE.is("does not meet", false, () -> x.meets(1));
        DUE.is("rules stay", "aaa>b baa>aab", () -> Due.rulesOf(x));
        Rewriterope y = Due.withRules("a>a", "a>b", "b>a");
        DUE.is("the same form, no end", true, () -> y.meets(0));
        Rewriterope z = Due.withRules("a>b", "a>a", "b>a");
        DUE.is("other forms, no ends", false, () -> z.meets(0));
    }

    private static void unmet() {
        DUE.is("without rules", -1, () -> new Rewriterope().unmet());
        DUE.is("without peaks", -1, () -> Due.withRules("ab>c").unmet());
        DUE.is("the first one", 0, () -> Due.withRules("aaa>b").unmet());
        DUE.is("the second one", 1, () -> Due.withRules("aaa>b", "baa>aab").unmet());
        DUE.is("all meet", -1, () -> Due.withRules("aaa>b", "ba>ab").unmet());
    }

    /** What is kept of the peaks must not outlive a change of the rules. */
    private static void unmetIsTakenAnew() {
        Rewriterope x = Due.withRules("ab>c", "b>d");
        DUE.is("unmet", 0, x::unmet);
        DUE.is("again", 0, x::unmet);
        x.flip(1);
        DUE.is("after flip", -1, x::unmet);
        x.flip(1);
        DUE.is("after flip", 0, x::unmet);
        x.drop(0);
        DUE.is("after drop", -1, x::unmet);
        Due.addRules(x, "ab>c");
        DUE.is("after rule", 0, x::unmet);
        DUE.is("peaks", 1, x::peaks);
        x.complete();
        DUE.is("after complete", -1, x::unmet);
        x.noRules();
        DUE.is("after noRules", -1, x::unmet);
        Due.put(x, 2, "aa");
        Due.put(x, 3, "b");
        x.falling(3, 2);
        DUE.is("after falling", 0, x::unmet);
        x.flip(0);
        DUE.is("after flip", -1, x::unmet);
        Due.addRules(x, "bb>");
        DUE.is("after rule", 0, x::unmet);
        Rewriterope y = Due.withRules("a>bb", "a>c", "c>bb");
        DUE.is("all meet", -1, y::unmet);
        DUE.is("peaks", 2, y::peaks);
        y.tidy();
        DUE.is("after tidy", 0, y::peaks);
        DUE.is("after tidy", "a>bb c>bb", () -> Due.rulesOf(y));
    }

    private static void complete() {
        Rewriterope x = Due.withRules("aaa>b");
        DUE.is("a rule comes", 1, x::complete);
        DUE.is("a rule comes", 2, x::complete);
        DUE.is("rules", "aaa>b baa>aab ba>ab", () -> Due.rulesOf(x));
        DUE.is("all meet", -1, x::complete);
        DUE.is("nothing is refused", 0, () -> x.house(0));
        DUE.is("no steps are counted", 0, () -> x.house(3));
        Rewriterope y = Due.withRules("ab>d", "bc>ccc");
        y.complete();
        DUE.is("the other side is behind", "accc>dc", () -> y.ruleText(2));
        Rewriterope z = Due.withRules("ab>d", "bc>c");
        z.complete();
        DUE.is("as long", "dc>ac", () -> z.ruleText(2));
        Rewriterope w = Due.withRules("ab>d", "bc>c", "d>b");
        w.complete();
        DUE.is("the forms of the sides", "ac>c", () -> w.ruleText(3));
        DUE.is("without rules", -1, () -> new Rewriterope().complete());
        Rewriterope v = Due.withRules("ab>d", "bc>cc", "cc>a");
        DUE.is("the first one does not meet", 0, v::unmet);
        DUE.is("another one is asked for", "ccc:ac|ca", () -> v.peak(2));
        v.complete();
        DUE.is("it is the first one all the same", "dc>aa", () -> v.ruleText(3));
    }

    private static void completeToTheEnd() {
        Rewriterope x = Due.withRules("ab>", "ba>a");
        DUE.is("unmet", 0, x::unmet);
        DUE.is("complete", 2, x::complete);
        DUE.is("unmet", 1, x::unmet);
        DUE.is("complete", 3, x::complete);
        DUE.is("unmet", 1, x::unmet);
        DUE.is("complete", 4, x::complete);
        DUE.is("rules", "ab> ba>a aa>a b> a>", () -> Due.rulesOf(x));
        DUE.is("all meet", -1, x::complete);
        DUE.is("tidy", 3, x::tidy);
        DUE.is("tidied", "b> a>", () -> Due.rulesOf(x));
        DUE.is("tidied", 0, x::tidy);
    }

    private static void completeRefused() {
        Rewriterope x = Due.withRules("ab>ccc", "bddd>d");
        DUE.is("6 letters", 2, x::complete);
        DUE.is("6 letters", "cccddd>ad", () -> x.ruleText(2));
        Rewriterope y = Due.withRules("ab>cccc", "bddd>d");
        DUE.is("7 letters", -9, y::complete);
        DUE.is("no rule came", 2, y::rules);
        DUE.is("refusals", 1, () -> y.house(0));
        String it = "c>d";
        Rewriterope z = Due.withRules("aaa>b", it, it, it, it, it, it, it);
        DUE.is("a ninth rule", -9, z::complete);
        DUE.is("8 rules", 8, z::rules);
        DUE.is("refusals", 1, () -> z.house(0));
        Rewriterope w = Due.withRules(it, it, it, it, it, it, it, it);
        DUE.is("8 rules, all meet", -1, w::complete);
        DUE.is("refusals", 0, () -> w.house(0));
    }

    private static void tidied(String what, int changed, String want, String... rules) {
        Rewriterope x = Due.withRules(rules);
        DUE.is(what, changed, x::tidy);
        DUE.is(what, want, () -> Due.rulesOf(x));
        DUE.is(what + ", nothing is counted", 0, () -> x.house(0) + x.house(3));
    }

    private static void tidyByForms() {
        tidied("without rules", 0, "");
        tidied("the right becomes its form", 1, "b>d c>d", "b>c", "c>d");
        tidied("a form of 6", 1, "b>aaaaaa c>aaa", "b>cc", "c>aaa");
        tidied("a form of 9", 0, "b>ccc c>aaa", "b>ccc", "c>aaa");
        tidied("it may be the left", 1, "b>c c>c", "b>c", "c>b");
        tidied("from the last one on", 1, "a>b b>b", "a>b", "b>a");
        tidied("not by itself", 0, "a>aa", "a>aa");
    }

    private static void tidyGoes() {
        tidied("the same rule", 1, "a>b", "a>b", "a>b");
        tidied("by the others", 1, "a>", "aa>a", "a>");
        tidied("not the same forms", 0, "a>b a>c", "a>b", "a>c");
        tidied("the right stays if the left has a spot", 0, "a>b a>c b>d", "a>b", "a>c", "b>d");
    }

    private static void tidyOneByOne() {
        tidied("with what others are then", 2, "a>d b>d c>d", "a>b", "b>c", "c>d");
        tidied("two of three go", 2, "a>b", "a>b", "a>b", "a>b");
        tidied("goes and becomes", 2, "ab>d c>d", "ab>c", "c>d", "cab>dd");
    }
}

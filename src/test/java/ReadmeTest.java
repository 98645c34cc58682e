/** The example of README.md, line by line. */
public final class ReadmeTest {
    private static final Due DUE = new Due();

    public static void main(String[] args) {
        Rewriterope x = new Rewriterope();
        DUE.is("rope 0", 3, () -> x.type(0, 0, 0, 0, -1, -1));
        DUE.is("rope 1", 1, () -> x.type(1, 1, -1, -1, -1, -1));
        DUE.is("rule 0", 0, () -> x.rule(0, 1));
        DUE.is("its text", "aaa>b", () -> x.ruleText(0));
        DUE.is("lay", 4, () -> x.lay(0, 0, 1));
        DUE.is("rope 0", "baaa", () -> x.text(0));
        DUE.is("spots", 1, () -> x.spots(0));
        DUE.is("spot", "1 0 bb", () -> x.spot(0, 0));
        DUE.is("peaks", 2, x::peaks);
        DUE.is("peak", "aaaaa:baa|aab", () -> x.peak(0));
        DUE.is("meets", false, () -> x.meets(0));
        DUE.is("complete", 1, x::complete);
        DUE.is("complete", 2, x::complete);
        DUE.is("complete", -1, x::complete);
        DUE.is("rules", "aaa>b baa>aab ba>ab", () -> Due.rulesOf(x));
        DUE.is("tidy", 1, x::tidy);
        DUE.is("rules", "aaa>b ba>ab", () -> Due.rulesOf(x));
        DUE.is("rope 2", 4, () -> x.type(2, 0, 1, 0, 0, -1));
        DUE.is("rope 2", "abaa", () -> x.text(2));
        DUE.is("told equal", 1, () -> x.told(0, 2));
        DUE.is("forms", "bb bb", () -> x.form(0) + " " + x.form(2));
        DUE.is("told not equal", 0, () -> x.told(0, 1));
        DUE.is("run", 3, () -> x.run(2, 0, 40));
        DUE.is("text", "bb", () -> x.text(2));
        DUE.is("pick", -9, () -> x.pick(2, 0));
        DUE.is("house", 1, () -> x.house(0));
        DUE.end("ReadmeTest");
    }
}

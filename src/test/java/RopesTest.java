/** Promises 1 to 11: a new object, and what the ropes do without rules. */
public final class RopesTest {
    private static final Due DUE = new Due();

    public static void main(String[] args) {
        newObject();
        type();
        clear();
        copy();
        lay();
        cut();
        turn();
        text();
        order();
        count();
        find();
        DUE.end("RopesTest");
    }

    private static Rewriterope with(String... texts) {
        Rewriterope x = new Rewriterope();
        for (int rope = 0; rope < texts.length; rope++) {
            Due.put(x, rope, texts[rope]);
        }
        return x;
    }

    private static void newObject() {
        Rewriterope x = new Rewriterope();
        for (int rope = 0; rope < 4; rope++) {
            int it = rope;
            DUE.is("new text", "", () -> x.text(it));
        }
        DUE.is("new rules", 0, x::rules);
        for (int what = 0; what < 4; what++) {
            int it = what;
            DUE.is("new house", 0, () -> x.house(it));
        }
        Rewriterope y = with("abcd");
        DUE.is("objects are apart", "", () -> x.text(0));
        DUE.is("objects are apart", "abcd", () -> y.text(0));
    }

    private static void type() {
        Rewriterope x = new Rewriterope();
        DUE.is("type none", 0, () -> x.type(0, -1, -1, -1, -1, -1));
        DUE.is("type all", 5, () -> x.type(0, 3, 2, 1, 0, 3));
        DUE.is("type with gaps", 7, () -> x.type(0, -1, 1, -1, 0, -1));
        DUE.is("typed", "dcbadba", () -> x.text(0));
        DUE.is("the last one alone", 8, () -> x.type(0, -1, -1, -1, -1, 2));
        DUE.is("typed", "dcbadbac", () -> x.text(0));
        DUE.is("other ropes stay", "", () -> x.text(1));
        DUE.noPlace("type rope -1", () -> x.type(-1, 0, 0, 0, 0, 0));
        DUE.noPlace("type rope 4", () -> x.type(4, 0, 0, 0, 0, 0));
        DUE.noPlace("rope goes ahead of letter", () -> x.type(4, 9, 0, 0, 0, 0));
        int[] wrong = {-2, 4, Integer.MIN_VALUE, Integer.MAX_VALUE};
        for (int letter : wrong) {
            DUE.noWord("type a", () -> x.type(0, letter, 0, 0, 0, 0));
            DUE.noWord("type b", () -> x.type(0, 0, letter, 0, 0, 0));
            DUE.noWord("type c", () -> x.type(0, 0, 0, letter, 0, 0));
            DUE.noWord("type d", () -> x.type(0, 0, 0, 0, letter, 0));
            DUE.noWord("type e", () -> x.type(0, 0, 0, 0, 0, letter));
        }
        DUE.is("nothing was typed", "dcbadbac", () -> x.text(0));
        Rewriterope y = with(Due.times("ab", 14));
        DUE.isThrown("33 letters", IllegalStateException.class, () -> y.type(0, 1, 1, 1, 1, 1));
        DUE.noWord("letter goes ahead of length", () -> y.type(0, 1, 1, 1, 1, 4));
        DUE.is("nothing was typed", 28, () -> y.text(0).length());
        DUE.is("32 letters", 32, () -> y.type(0, 1, 1, -1, 1, 1));
        DUE.is("none on a full rope", 32, () -> y.type(0, -1, -1, -1, -1, -1));
        DUE.isThrown("one more", IllegalStateException.class, () -> y.type(0, -1, 0, -1, -1, -1));
    }

    private static void clear() {
        Rewriterope x = with("abc", "d");
        DUE.is("clear", 3, () -> x.clear(0));
        DUE.is("cleared", "", () -> x.text(0));
        DUE.is("clear none", 0, () -> x.clear(0));
        DUE.is("other ropes stay", "d", () -> x.text(1));
        DUE.noPlace("clear -1", () -> x.clear(-1));
        DUE.noPlace("clear 4", () -> x.clear(4));
    }

    private static void copy() {
        Rewriterope x = with("abc", "dd", "", "a");
        DUE.is("copy shorter", 2, () -> x.copy(0, 1));
        DUE.is("copied", "dd", () -> x.text(0));
        DUE.is("from stays", "dd", () -> x.text(1));
        DUE.is("copy itself", 2, () -> x.copy(1, 1));
        DUE.is("copied itself", "dd", () -> x.text(1));
        DUE.is("copy none", 0, () -> x.copy(3, 2));
        DUE.is("copied none", "", () -> x.text(3));
        x.type(1, 0, -1, -1, -1, -1);
        DUE.is("a copy is apart", "dd", () -> x.text(0));
        DUE.noPlace("copy 4", () -> x.copy(4, 0));
        DUE.noPlace("copy from 4", () -> x.copy(0, 4));
        DUE.noPlace("copy -1", () -> x.copy(-1, 0));
        DUE.noPlace("copy from -1", () -> x.copy(0, -1));
    }

    private static void lay() {
        Rewriterope x = with("abc", "dd");
        DUE.is("lay in front", 5, () -> x.lay(0, 0, 1));
        DUE.is("laid", "ddabc", () -> x.text(0));
        DUE.is("lay within", 7, () -> x.lay(0, 3, 1));
        DUE.is("laid", "ddaddbc", () -> x.text(0));
        DUE.is("lay behind", 9, () -> x.lay(0, 7, 1));
        DUE.is("laid", "ddaddbcdd", () -> x.text(0));
        DUE.is("lay itself", 18, () -> x.lay(0, 3, 0));
        DUE.is("laid", "dda" + "ddaddbcdd" + "ddbcdd", () -> x.text(0));
        DUE.is("the other one stays", "dd", () -> x.text(1));
        DUE.is("lay none", 18, () -> x.lay(0, 5, 2));
        DUE.is("36 letters", -9, () -> x.lay(0, 3, 0));
        DUE.is("nothing was laid", 18, () -> x.text(0).length());
        DUE.is("refusals", 1, () -> x.house(0));
        DUE.noPlace("rope 4", () -> x.lay(4, 0, 0));
        DUE.noPlace("rope -1", () -> x.lay(-1, 0, 0));
        DUE.noPlace("other 4", () -> x.lay(0, 0, 4));
        DUE.noPlace("other -1", () -> x.lay(0, 0, -1));
        DUE.noPlace("place -1", () -> x.lay(0, -1, 1));
        DUE.noPlace("place behind all, one more", () -> x.lay(0, 19, 1));
        DUE.noPlace("place goes ahead of length", () -> x.lay(0, 19, 0));
        DUE.is("no refusal by an exception", 1, () -> x.house(0));
        Rewriterope y = with(Due.times("abcd", 4), Due.times("d", 17));
        DUE.is("33 letters", -9, () -> y.lay(0, 16, 1));
        y.cut(1, 0, 1);
        DUE.is("32 letters", 32, () -> y.lay(0, 16, 1));
    }

    private static void cut() {
        Rewriterope x = with("abcdabcd");
        DUE.is("cut none", 8, () -> x.cut(0, 3, 3));
        DUE.is("cut none at the end", 8, () -> x.cut(0, 8, 8));
        DUE.is("cut within", 6, () -> x.cut(0, 1, 3));
        DUE.is("cut", "adabcd", () -> x.text(0));
        DUE.is("cut the end", 5, () -> x.cut(0, 5, 6));
        DUE.is("cut", "adabc", () -> x.text(0));
        DUE.noPlace("rope 4", () -> x.cut(4, 0, 0));
        DUE.noPlace("rope -1", () -> x.cut(-1, 0, 0));
        DUE.noPlace("from -1", () -> x.cut(0, -1, 0));
        DUE.noPlace("from 6", () -> x.cut(0, 6, 6));
        DUE.noPlace("to 6", () -> x.cut(0, 0, 6));
        DUE.noPlace("to -1", () -> x.cut(0, 0, -1));
        DUE.noPlace("place goes ahead of from above to", () -> x.cut(0, 6, 1));
        DUE.noPlace("place goes ahead of from above to", () -> x.cut(0, 3, -1));
        DUE.noWord("from above to", () -> x.cut(0, 3, 2));
        DUE.is("nothing was cut", "adabc", () -> x.text(0));
        DUE.is("cut all", 0, () -> x.cut(0, 0, 5));
        DUE.is("cut", "", () -> x.text(0));
        DUE.noPlace("a rope without letters", () -> x.cut(0, 0, 1));
        Rewriterope y = with("abc", "dd");
        y.told(0, 1);
        DUE.is("cut after other calls", 2, () -> y.cut(0, 1, 2));
        DUE.is("cut", "ac", () -> y.text(0));
    }

    private static void turn() {
        Rewriterope x = with("abcd", "abc", "d");
        DUE.is("turn", 4, () -> x.turn(0));
        DUE.is("turned", "dcba", () -> x.text(0));
        DUE.is("turn odd", 3, () -> x.turn(1));
        DUE.is("turned", "cba", () -> x.text(1));
        DUE.is("turn one", 1, () -> x.turn(2));
        DUE.is("turned", "d", () -> x.text(2));
        DUE.is("turn none", 0, () -> x.turn(3));
        DUE.noPlace("turn 4", () -> x.turn(4));
        DUE.noPlace("turn -1", () -> x.turn(-1));
    }

    private static void text() {
        Rewriterope x = with("", "a", "dcba", Due.times("abcd", 8));
        DUE.is("text", "", () -> x.text(0));
        DUE.is("text", "a", () -> x.text(1));
        DUE.is("text", "dcba", () -> x.text(2));
        DUE.is("text", Due.times("abcd", 8), () -> x.text(3));
        DUE.noPlace("text 4", () -> x.text(4));
        DUE.noPlace("text -1", () -> x.text(-1));
    }

    private static void order() {
        Rewriterope x = with("d", "aa", "ab", "");
        DUE.is("shorter", -1, () -> x.order(0, 1));
        DUE.is("longer", 1, () -> x.order(1, 0));
        DUE.is("lesser", -1, () -> x.order(1, 2));
        DUE.is("greater", 1, () -> x.order(2, 1));
        DUE.is("none", -1, () -> x.order(3, 0));
        DUE.is("same rope", 0, () -> x.order(2, 2));
        x.copy(3, 2);
        DUE.is("same text", 0, () -> x.order(2, 3));
        Rewriterope y = with("adaa", "acdd");
        DUE.is("the first place where they differ", 1, () -> y.order(0, 1));
        DUE.is("both without letters", 0, () -> y.order(2, 3));
        DUE.noPlace("order 4", () -> x.order(4, 0));
        DUE.noPlace("order other 4", () -> x.order(0, 4));
        DUE.noPlace("order -1", () -> x.order(-1, 0));
        DUE.noPlace("order other -1", () -> x.order(0, -1));
    }

    private static void count() {
        Rewriterope x = with("aaaab", "aa", "", "ab");
        DUE.is("places may overlap", 3, () -> x.count(0, 1));
        DUE.is("none stands everywhere", 6, () -> x.count(0, 2));
        DUE.is("none stands in none", 1, () -> x.count(2, 2));
        DUE.is("at the end", 1, () -> x.count(0, 3));
        DUE.is("longer than it", 0, () -> x.count(1, 0));
        DUE.is("nothing in none", 0, () -> x.count(2, 1));
        DUE.is("itself", 1, () -> x.count(0, 0));
        DUE.noPlace("count 4", () -> x.count(4, 0));
        DUE.noPlace("count other 4", () -> x.count(0, 4));
        DUE.noPlace("count -1", () -> x.count(-1, 0));
        DUE.noPlace("count other -1", () -> x.count(0, -1));
    }

    private static void find() {
        Rewriterope x = with("caabaab", "aab", "", "d");
        DUE.is("first", 1, () -> x.find(0, 1, false));
        DUE.is("last", 4, () -> x.find(0, 1, true));
        DUE.is("none first", 0, () -> x.find(0, 2, false));
        DUE.is("none last", 7, () -> x.find(0, 2, true));
        DUE.is("without", -1, () -> x.find(0, 3, false));
        DUE.is("without", -1, () -> x.find(0, 3, true));
        DUE.is("longer than it", -1, () -> x.find(1, 0, false));
        DUE.is("itself", 0, () -> x.find(0, 0, true));
        DUE.noPlace("find 4", () -> x.find(4, 0, false));
        DUE.noPlace("find other 4", () -> x.find(0, 4, true));
        DUE.noPlace("find -1", () -> x.find(-1, 0, false));
        DUE.noPlace("find other -1", () -> x.find(0, -1, true));
    }
}

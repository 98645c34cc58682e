/** The edges that promises 22 to 30 name: each sentence with what is just within it and just not. */
public final class StepsEdgesTest {
    private static final Edges EDGES = new Edges();
    private static final String A32 = Due.times("a", 32);
    private static final String B29 = Due.times("b", 29);
    private static final String B30 = Due.times("b", 30);
    private static final String B31 = Due.times("b", 31);

    public static void main(String[] args) {
        stepArguments();
        stepPlaces();
        stepEnd();
        stepLength();
        runArguments();
        runMost();
        runLength();
        runFortieth();
        pickSpot();
        pickLength();
        unwindPlace();
        unwindNone();
        unwindLength();
        spots();
        spot();
        isEnd();
        formFortieth();
        formLength();
        toldOne();
        toldZero();
        EDGES.end("StepsEdgesTest");
    }

    private static void stepArguments() {
        Scene scene = Scene.of("ba").rules("b>a");
        EDGES.noRope("22 step", scene, (x, n) -> x.step(n, 0));
        EDGES.noRope("22 rope ahead of way", scene, (x, n) -> x.step(n, 3));
        for (int way : Edges.beside(0, 2)) {
            EDGES.noWord("22 way " + way, scene, x -> x.step(0, way));
            EDGES.noWord("22 way " + way + " of an end", scene, x -> x.step(1, way));
            EDGES.noWord("22 way " + way + " ahead of REFUSED", Scene.of(A32).rules("a>bb"),
                    x -> x.step(0, way));
        }
    }

    private static void stepsTo(String what, int way, int place, Scene scene, String then,
            String... rules) {
        EDGES.steps("22 " + what + ", way " + way, place, scene.rules(rules), x -> x.step(0, way),
                Scene.of(then).rules(rules), 1);
    }

    private static void stepPlaces() {
        String[] rules = {"ab>d", "b>c", "a>", "abc>d"};
        stepsTo("the first place and rule", 0, 0, Scene.of("abcab"), "dcab", rules);
        stepsTo("the greatest place", 1, 4, Scene.of("abcab"), "abcac", rules);
        stepsTo("the least rule", 2, 0, Scene.of("abcab"), "dcab", rules);
        String[] same = {"aa>b", "aa>c"};
        stepsTo("of one place the least rule", 0, 0, Scene.of("aaa"), "ba", same);
        stepsTo("of one place the least rule", 1, 1, Scene.of("aaa"), "ab", same);
        stepsTo("of one rule the least place", 2, 0, Scene.of("aaa"), "ba", same);
        String[] apart = {"b>c", "a>d"};
        stepsTo("the place goes ahead of the rule", 0, 0, Scene.of("aba"), "dba", apart);
        stepsTo("the place goes ahead of the rule", 1, 2, Scene.of("aba"), "abd", apart);
        stepsTo("the rule goes ahead of the place", 2, 1, Scene.of("aba"), "aca", apart);
        for (int way = 0; way < 3; way++) {
            stepsTo("the last place of 32", way, 31, Scene.of(B31 + "a"), B31 + "d", "c>d", "a>d");
            stepsTo("the first place of 32", way, 0, Scene.of("a" + B31), "d" + B31, "c>d", "a>d");
            stepsTo("all of it goes", way, 0, Scene.of("abcdab"), "", "abcdab>");
            stepsTo("6 at the end", way, 26, Scene.of(Due.times("d", 26) + "abcabc"),
                    Due.times("d", 26) + "b", "abcabc>b");
            stepsTo("it becomes what it was", way, 0, Scene.of("a"), "a", "a>a");
        }
        String[] eight = {"b>", "b>", "b>", "b>", "b>", "b>", "b>", "a>d"};
        stepsTo("the last one of 8 rules", 2, 1, Scene.of("ca"), "cd", eight);
    }

    private static void stepEnd() {
        for (int i = 0; i < 3; i++) {
            int way = i;
            EDGES.answers("22 none is an end", -1, Scene.of().rules("a>"), x -> x.step(0, way));
            EDGES.answers("22 an end", -1, Scene.of("bb").rules("a>", "bbb>a"),
                    x -> x.step(0, way));
            EDGES.answers("22 without rules", -1, Scene.of(A32), x -> x.step(0, way));
            EDGES.answers("22 a left that is not whole", -1, Scene.of("cab").rules("abc>"),
                    x -> x.step(0, way));
        }
    }

    private static void stepLength() {
        for (int i = 0; i < 3; i++) {
            int way = i;
            stepsTo("one to 32 letters", way, 29, Scene.of(B29 + "a"), B29 + "ccc", "a>ccc");
            EDGES.refused("22 to 33 letters", Scene.of(B30 + "a").rules("a>ccc"),
                    x -> x.step(0, way));
            EDGES.refused("22 to 37 letters", Scene.of("a" + B31).rules("a>cccccc"),
                    x -> x.step(0, way));
            stepsTo("32 stay 32", way, 31, Scene.of(B31 + "a"), B31 + "c", "a>c");
            stepsTo("32 get less", way, 31, Scene.of(B31 + "a"), B31, "a>");
        }
        // One spot would make it too long, another one would not: the way alone tells which.
        Scene both = Scene.of("a" + B30 + "c").rules("a>aa", "c>");
        EDGES.refused("22 the spot of way 0 is too long", both, x -> x.step(0, 0));
        EDGES.steps("22 that of way 1 is not", 31, both, x -> x.step(0, 1),
                Scene.of("a" + B30).rules("a>aa", "c>"), 1);
        EDGES.refused("22 that of way 2 is too long", both, x -> x.step(0, 2));
    }

    private static void runArguments() {
        Scene scene = Scene.of("ba").rules("b>a");
        EDGES.noRope("23 run", scene, (x, n) -> x.run(n, 0, 1));
        EDGES.noRope("23 rope ahead of way and most", scene, (x, n) -> x.run(n, 3, 0));
        for (int way : Edges.beside(0, 2)) {
            EDGES.noWord("23 way " + way, scene, x -> x.run(0, way, 1));
            EDGES.noWord("23 way " + way + " of an end", scene, x -> x.run(1, way, 40));
        }
        for (int most : Edges.beside(1, 40)) {
            EDGES.noWord("23 most " + most, scene, x -> x.run(0, 0, most));
            EDGES.noWord("23 most " + most + " of an end", scene, x -> x.run(1, 2, most));
        }
    }

    private static void runs(String what, int way, int most, int made, String text, String then,
            String... rules) {
        EDGES.steps("23 " + what + ", way " + way + ", most " + most, made,
                Scene.of(text).rules(rules), x -> x.run(0, way, most),
                Scene.of(then).rules(rules), made);
    }

    private static void runMost() {
        for (int way = 0; way < 3; way++) {
            runs("none is an end", way, 40, 0, "", "", "a>");
            runs("an end", way, 40, 0, "bb", "bb", "a>");
            runs("without rules", way, 1, 0, "bb", "bb");
            runs("all till an end", way, 40, 4, "aba", "bbb", "a>c", "c>b");
            runs("just so many as there are", way, 2, 2, "aba", "b", "a>");
            runs("one more than there are", way, 3, 2, "aba", "b", "a>");
        }
        runs("one less than there are", 0, 1, 1, "abac", "bac", "a>");
        runs("one less than there are", 1, 1, 1, "abac", "abc", "a>");
        runs("one less than there are", 2, 1, 1, "abac", "bac", "a>");
    }

    private static void runLength() {
        for (int way = 0; way < 3; way++) {
            runs("30 to 32", way, 40, 1, B29 + "a", B29 + "cac", "a>cac");
            runs("31 stay", way, 40, 0, B30 + "a", B30 + "a", "a>cac");
            runs("32 stay", way, 40, 0, B31 + "a", B31 + "a", "a>aa");
            runs("one to 32", way, 40, 31, "a", B31 + "a", "a>ba");
            runs("32 with the same length", way, 5, 5, A32, way == 1
                    ? A32.substring(5) + "bbbbb" : "bbbbb" + A32.substring(5), "a>b");
        }
        // It ends at the spot that is too long, though another one is not.
        runs("the first spot is too long", 0, 40, 0, "a" + B30 + "c", "a" + B30 + "c", "a>aa", "c>");
        runs("the last spot is not", 1, 40, 2, "a" + B30 + "c", "aa" + B30, "a>aa", "c>");
    }

    private static void runFortieth() {
        String a20 = Due.times("a", 20);
        String a21 = Due.times("a", 21);
        String c19 = Due.times("c", 19);
        String c20 = Due.times("c", 20);
        String[] two = {"a>b", "b>c"};
        runs("40 of 40", 0, 40, 40, a20, c20, two);
        runs("39 of 40", 0, 39, 39, a20, c19 + "b", two);
        runs("40 of 42", 0, 40, 40, a21, c20 + "a", two);
        runs("40 of 42", 1, 40, 40, a21, "a" + c20, two);
        runs("40 of 42", 2, 40, 40, a21, c19 + "bb", two);
        runs("40 of any number", 0, 40, 40, "a", "a", "a>b", "b>a");
        runs("39 of any number", 0, 39, 39, "a", "b", "a>b", "b>a");
        runs("one of any number", 0, 1, 1, "a", "b", "a>b", "b>a");
    }

    private static void pickSpot() {
        Scene scene = Scene.of("aba").rules("a>c", "ab>dd");
        String[] rules = {"a>c", "ab>dd"};
        EDGES.noRope("24 pick", scene, (x, n) -> x.pick(n, 0));
        EDGES.noRope("24 rope ahead of REFUSED", scene, (x, n) -> x.pick(n, 99));
        for (int spot : Edges.beside(0, 2)) {
            EDGES.refused("24 spot " + spot, scene, x -> x.pick(0, spot));
        }
        for (int spot : Edges.beside(0, -1)) {
            EDGES.refused("24 spot " + spot + " of none", scene, x -> x.pick(1, spot));
            EDGES.refused("24 spot " + spot + " of an end", Scene.of("bb").rules("a>"),
                    x -> x.pick(0, spot));
            EDGES.refused("24 spot " + spot + " without rules", Scene.of(A32),
                    x -> x.pick(0, spot));
        }
        EDGES.steps("24 the first spot", 3, scene, x -> x.pick(0, 0),
                Scene.of("cba").rules(rules), 1);
        EDGES.steps("24 the next rule", 3, scene, x -> x.pick(0, 1),
                Scene.of("dda").rules(rules), 1);
        EDGES.steps("24 the last spot", 3, scene, x -> x.pick(0, 2),
                Scene.of("abc").rules(rules), 1);
        Scene most = Scene.of(A32).eight("a>b");
        EDGES.steps("24 the last one of 256", 32, most, x -> x.pick(0, 255),
                Scene.of(A32.substring(1) + "b").eight("a>b"), 1);
        EDGES.refused("24 one behind 256", most, x -> x.pick(0, 256));
        EDGES.steps("24 all of it goes", 0, Scene.of("a").rules("a>"), x -> x.pick(0, 0),
                Scene.of().rules("a>"), 1);
    }

    private static void pickLength() {
        Scene scene = Scene.of(B29 + "a").rules("a>ccc", "ba>cccccc", "b>");
        String[] rules = {"a>ccc", "ba>cccccc", "b>"};
        EDGES.steps("24 to 32", 32, scene, x -> x.pick(0, 30),
                Scene.of(B29 + "ccc").rules(rules), 1);
        EDGES.refused("24 to 34", scene, x -> x.pick(0, 28));
        EDGES.refused("24 to 33", Scene.of(B30 + "a").rules("a>ccc"), x -> x.pick(0, 0));
        EDGES.steps("24 32 stay 32", 32, Scene.of(A32).rules("a>b"), x -> x.pick(0, 0),
                Scene.of("b" + A32.substring(1)).rules("a>b"), 1);
        EDGES.refused("24 32 to 33", Scene.of(A32).rules("a>bb"), x -> x.pick(0, 31));
    }

    private static void unwindPlace() {
        String[] rules = {"d>aa", "b>b"};
        Scene scene = Scene.of("aaabaa").rules(rules);
        EDGES.noRope("25 unwind", scene, (x, n) -> x.unwind(n, 0, 0));
        EDGES.noRope("25 rope ahead of REFUSED", scene, (x, n) -> x.unwind(n, 0, 99));
        EDGES.noPlaceBeside("25 rule", 2, scene, (x, n) -> x.unwind(0, n, 0));
        EDGES.noPlaceBeside("25 rule ahead of REFUSED", 2, scene, (x, n) -> x.unwind(0, n, 99));
        EDGES.noPlaceBeside("25 rule of none", 0, Scene.of("a"), (x, n) -> x.unwind(0, n, 0));
        for (int nth : Edges.beside(0, 2)) {
            EDGES.refused("25 place " + nth, scene, x -> x.unwind(0, 0, nth));
        }
        for (int nth : Edges.beside(0, -1)) {
            EDGES.refused("25 place " + nth + " of none", scene, x -> x.unwind(1, 0, nth));
            EDGES.refused("25 place " + nth + " without one", Scene.of("bab").rules(rules),
                    x -> x.unwind(0, 0, nth));
        }
        EDGES.makes("25 the first place", 5, scene, x -> x.unwind(0, 0, 0),
                Scene.of("dabaa").rules(rules));
        EDGES.makes("25 one that overlaps it", 5, scene, x -> x.unwind(0, 0, 1),
                Scene.of("adbaa").rules(rules));
        EDGES.makes("25 the last place", 5, scene, x -> x.unwind(0, 0, 2),
                Scene.of("aaabd").rules(rules));
        EDGES.answers("25 both sides the same", 6, scene, x -> x.unwind(0, 1, 0));
        EDGES.makes("25 all of it", 1, Scene.of("aa").rules(rules), x -> x.unwind(0, 0, 0),
                Scene.of("d").rules(rules));
        EDGES.makes("25 the last one of 8 rules", 2, Scene.of("ab").eight("c>b"),
                x -> x.unwind(0, 7, 0), Scene.of("ac").eight("c>b"));
    }

    /** A right of none stands at each place from 0 to the length. */
    private static void unwindNone() {
        String[] rules = {"cd>"};
        Scene scene = Scene.of("ab").rules(rules);
        EDGES.makes("25 none at 0", 4, scene, x -> x.unwind(0, 0, 0), Scene.of("cdab").rules(rules));
        EDGES.makes("25 none within", 4, scene, x -> x.unwind(0, 0, 1),
                Scene.of("acdb").rules(rules));
        EDGES.makes("25 none at the length", 4, scene, x -> x.unwind(0, 0, 2),
                Scene.of("abcd").rules(rules));
        for (int nth : Edges.beside(0, 2)) {
            EDGES.refused("25 none, place " + nth, scene, x -> x.unwind(0, 0, nth));
        }
        EDGES.makes("25 none in none", 2, scene, x -> x.unwind(1, 0, 0),
                Scene.of("ab", "cd").rules(rules));
        for (int nth : Edges.beside(0, 0)) {
            EDGES.refused("25 none in none, place " + nth, scene, x -> x.unwind(1, 0, nth));
        }
    }

    private static void unwindLength() {
        EDGES.makes("25 none, to 32", 32, Scene.of(B30).rules("cd>"), x -> x.unwind(0, 0, 30),
                Scene.of(B30 + "cd").rules("cd>"));
        EDGES.refused("25 none, to 33", Scene.of(B31).rules("cd>"), x -> x.unwind(0, 0, 31));
        EDGES.refused("25 none, 32 to 33", Scene.of(A32).rules("c>"), x -> x.unwind(0, 0, 32));
        EDGES.makes("25 to 32", 32, Scene.of(B29 + "aa").rules("ccc>aa"), x -> x.unwind(0, 0, 0),
                Scene.of(B29 + "ccc").rules("ccc>aa"));
        EDGES.refused("25 to 33", Scene.of(B30 + "aa").rules("ccc>aa"), x -> x.unwind(0, 0, 0));
        EDGES.refused("25 to 37", Scene.of(A32).rules("bbbbbb>a"), x -> x.unwind(0, 0, 31));
        EDGES.makes("25 32 stay 32", 32, Scene.of(B31 + "a").rules("c>a"), x -> x.unwind(0, 0, 0),
                Scene.of(B31 + "c").rules("c>a"));
        EDGES.makes("25 32 get less", 27, Scene.of(A32).rules("b>aaaaaa"), x -> x.unwind(0, 0, 26),
                Scene.of(Due.times("a", 26) + "b").rules("b>aaaaaa"));
    }

    private static void spots() {
        EDGES.noRope("26 spots", Scene.of("a").rules("a>"), (x, n) -> x.spots(n));
        EDGES.answers("26 of none", 0, Scene.of().rules("a>"), x -> x.spots(0));
        EDGES.answers("26 without rules", 0, Scene.of(A32), x -> x.spots(0));
        EDGES.answers("26 of an end", 0, Scene.of("ba").rules("ab>"), x -> x.spots(0));
        EDGES.answers("26 one", 1, Scene.of("ab").rules("ab>"), x -> x.spots(0));
        EDGES.answers("26 a left longer than it", 0, Scene.of("ab").rules("abc>"), x -> x.spots(0));
        EDGES.answers("26 at the first place and the last one", 2, Scene.of("abba").rules("a>"),
                x -> x.spots(0));
        EDGES.answers("26 they overlap", 31, Scene.of(A32).rules("aa>"), x -> x.spots(0));
        EDGES.answers("26 of 6 letters", 27, Scene.of(A32).rules("aaaaaa>"), x -> x.spots(0));
        EDGES.answers("26 the most", 256, Scene.of(A32).eight("a>b"), x -> x.spots(0));
    }

    private static void spot() {
        Scene scene = Scene.of("aba").rules("a>", "ba>ccc");
        EDGES.noRope("27 spot", scene, (x, n) -> x.spot(n, 0));
        EDGES.noRope("27 rope, without such a spot", scene, (x, n) -> x.spot(n, 99));
        EDGES.answers("27 the first one", "0 0 ba", scene, x -> x.spot(0, 0));
        EDGES.answers("27 the second one", "1 1 accc", scene, x -> x.spot(0, 1));
        EDGES.answers("27 the last one", "2 0 ab", scene, x -> x.spot(0, 2));
        for (int spot : Edges.beside(0, 2)) {
            EDGES.answers("27 spot " + spot, "", scene, x -> x.spot(0, spot));
        }
        for (int spot : Edges.beside(0, -1)) {
            EDGES.answers("27 spot " + spot + " of none", "", scene, x -> x.spot(1, spot));
            EDGES.answers("27 spot " + spot + " without rules", "", Scene.of(A32),
                    x -> x.spot(0, spot));
        }
        EDGES.answers("27 nothing is left", "0 0 ", Scene.of("a").rules("a>"), x -> x.spot(0, 0));
        String a31 = A32.substring(1);
        EDGES.answers("27 37 letters in front", "0 0 bbbbbb" + a31, Scene.of(A32).rules("a>bbbbbb"),
                x -> x.spot(0, 0));
        EDGES.answers("27 37 letters behind", "31 0 " + a31 + "bbbbbb",
                Scene.of(A32).rules("a>bbbbbb"), x -> x.spot(0, 31));
        EDGES.answers("27 33 letters", "9 0 aaaaaaaaabb" + Due.times("a", 22),
                Scene.of(A32).rules("a>bb"), x -> x.spot(0, 9));
        EDGES.answers("27 the last one of 256", "31 7 " + a31 + "b", Scene.of(A32).eight("a>b"),
                x -> x.spot(0, 255));
        EDGES.answers("27 one behind 256", "", Scene.of(A32).eight("a>b"), x -> x.spot(0, 256));
    }

    private static void isEnd() {
        EDGES.noRope("28 isEnd", Scene.of("a").rules("a>"), (x, n) -> x.isEnd(n));
        EDGES.answers("28 none", true, Scene.of().rules("a>"), x -> x.isEnd(0));
        EDGES.answers("28 without rules", true, Scene.of(A32), x -> x.isEnd(0));
        EDGES.answers("28 a spot at the first place", false, Scene.of("a" + B31).rules("a>a"),
                x -> x.isEnd(0));
        EDGES.answers("28 a spot at the last place", false, Scene.of(B31 + "a").rules("c>", "a>a"),
                x -> x.isEnd(0));
        EDGES.answers("28 without a spot", true, Scene.of(B31 + "d").rules("c>", "a>a"),
                x -> x.isEnd(0));
        EDGES.answers("28 a spot whose step does not fit", false, Scene.of(A32).rules("a>aa"),
                x -> x.isEnd(0));
        EDGES.answers("28 its left is one longer", true, Scene.of("aaaaa").rules("aaaaaa>"),
                x -> x.isEnd(0));
        EDGES.answers("28 its left is as long", false, Scene.of("aaaaaa").rules("aaaaaa>"),
                x -> x.isEnd(0));
    }

    private static void forms(String what, String want, String text, String... rules) {
        EDGES.answers("29 " + what, want, Scene.of(text).rules(rules), x -> x.form(0));
    }

    private static void formFortieth() {
        EDGES.noRope("29 form", Scene.of("a").rules("a>"), (x, n) -> x.form(n));
        forms("of none", "", "", "a>");
        forms("without rules", A32, A32);
        forms("of an end", "b", "b", "a>");
        forms("nothing is left", "", A32, "a>");
        String c20 = Due.times("c", 20);
        forms("an end by 39 steps", c20, Due.times("a", 19) + "b", "a>b", "b>c");
        forms("an end by 40 steps", c20, Due.times("a", 20), "a>b", "b>c");
        forms("40 of 41 steps", c20 + "b", Due.times("a", 20) + "b", "a>b", "b>c");
        forms("40 of 42 steps", c20 + "a", Due.times("a", 21), "a>b", "b>c");
        forms("40 of any number, not 39 nor 41", "a", "a", "a>b", "b>a");
        forms("by the way 0, not 1 nor 2", "d", "ba", "a>c", "ba>d");
    }

    private static void formLength() {
        forms("to 32 letters", B29 + "ccc", B29 + "a", "a>ccc");
        forms("not to 33", B30 + "a", B30 + "a", "a>ccc");
        forms("32 stay 32", B31 + "c", B31 + "a", "a>c");
        forms("32 are not made 33", A32, A32, "a>bb");
        forms("up to 32 by 31 steps", B31 + "a", "a", "a>ba");
        forms("no other spot is taken", "a" + B30 + "c", "a" + B30 + "c", "a>aa", "c>");
        forms("a spot ahead is taken", "b" + B29 + "a", "c" + B29 + "a", "a>bbb", "c>b");
        forms("longer on the way", "", B30 + "c", "c>ac", "ac>", "b>");
    }

    private static void told(String what, int want, String one, String other, String... rules) {
        EDGES.answers("30 " + what, want, Scene.of(one, other).rules(rules), x -> x.told(0, 1));
        EDGES.answers("30 " + what + ", the other way round", want,
                Scene.of(one, other).rules(rules), x -> x.told(1, 0));
    }

    private static void toldOne() {
        EDGES.noRope("30 told", Scene.of("a").rules("a>"), (x, n) -> x.told(n, 0));
        EDGES.noRope("30 told other", Scene.of("a").rules("a>"), (x, n) -> x.told(0, n));
        EDGES.answers("30 a rope and itself", 1, Scene.of("ab").rules("a>b"), x -> x.told(0, 0));
        told("none and none", 1, "", "");
        told("the same text", 1, A32, A32, "a>bb");
        told("the same form", 1, "aab", "b", "a>");
        told("the same form, of rules that do not fall", 1, "ab", "bb", "a>b");
        told("the same form, of peaks that do not meet", 1, "abd", "ad", "ab>a", "bc>b");
        told("the same form, by 40 steps", 1, Due.times("a", 20), Due.times("c", 20),
                "a>b", "b>c");
        told("the same form, no end", 1, "b", "bb", "bb>b", "b>b");
    }

    private static void toldZero() {
        told("without rules", 0, "a", "b");
        told("none and some", 0, "", "a");
        told("ends that differ", 0, "ac", "ad", "a>");
        told("32 and 31", 0, A32, A32.substring(1));
        told("one rule does not fall", -1, "ac", "ad", "a>", "b>b");
        told("one peak does not meet", -1, "ac", "ad", "ab>a", "bc>b");
        told("all peaks meet", 0, "ac", "ad", "ab>a", "bc>b", "ac>ab");
        // 40 steps make "d" to the 13th and one "b" an end; one step more is one too many.
        String forty = Due.times("d", 13) + "b";
        told("an end by 40 steps", 0, forty, "a", "d>c", "c>b", "b>a");
        told("an end by 41 steps", -1, forty + "b", "a", "d>c", "c>b", "b>a");
        told("both no ends", -1, Due.times("d", 14), Due.times("d", 15), "d>c", "c>b", "b>a");
        told("not equal, 41 steps apart", -1, Due.times("a", 20) + "b", "a", "a>b", "b>c");
    }
}

/** The edges that promises 1 to 11 name: each sentence with what is just within it and just not. */
public final class RopesEdgesTest {
    private static final Edges EDGES = new Edges();
    private static final String A31 = Due.times("a", 31);
    private static final String A32 = Due.times("a", 32);
    private static final String B16 = Due.times("b", 16);
    private static final String ABCD8 = Due.times("abcd", 8);

    public static void main(String[] args) {
        newObject();
        typeRope();
        typeLetters();
        typeLength();
        clear();
        copy();
        layPlace();
        layLength();
        layItself();
        cutPlace();
        cutFromAboveTo();
        turn();
        text();
        order();
        orderBehindCutLetters();
        countPlaces();
        find();
        EDGES.end("RopesEdgesTest");
    }

    private static void newObject() {
        Scene empty = Scene.of().counted(0, 0, 0);
        for (int i = 0; i < 4; i++) {
            int rope = i;
            EDGES.answers("1 text of a new rope", "", empty, x -> x.text(rope));
            EDGES.answers("1 spots of a new rope", 0, empty, x -> x.spots(rope));
            EDGES.answers("1 a new rope is an end", true, empty, x -> x.isEnd(rope));
            EDGES.answers("1 form of a new rope", "", empty, x -> x.form(rope));
            EDGES.answers("1 house of a new object", 0, empty, x -> x.house(rope));
            EDGES.answers("1 step of a new rope", -1, empty, x -> x.step(rope, 0));
        }
        EDGES.answers("1 no rules", 0, empty, Rewriterope::rules);
        EDGES.noPlace("1 no rule 0", empty, x -> x.ruleText(0));
        EDGES.answers("1 all of no rules fall", true, empty, Rewriterope::areFalling);
        EDGES.answers("1 no peaks", 0, empty, Rewriterope::peaks);
        EDGES.answers("1 all of no peaks meet", -1, empty, Rewriterope::unmet);
        EDGES.answers("1 sound", true, empty, Rewriterope::isSound);
        EDGES.answers("1 two new ropes are told equal", 1, empty, x -> x.told(0, 3));
    }

    private static void typeRope() {
        EDGES.noRope("2 type", Scene.of("ab"), (x, n) -> x.type(n, 0, 0, 0, 0, 0));
        EDGES.noRope("2 rope ahead of letter", Scene.of("ab"), (x, n) -> x.type(n, 4, 0, 0, 0, 0));
        EDGES.makes("2 the first rope", 1, Scene.of(), x -> x.type(0, 0, -1, -1, -1, -1),
                Scene.of("a"));
        EDGES.makes("2 the last rope", 1, Scene.of(), x -> x.type(3, 0, -1, -1, -1, -1),
                Scene.of("", "", "", "a"));
    }

    private static int typeAt(Rewriterope x, int at, int letter, int others) {
        return x.type(0, at == 0 ? letter : others, at == 1 ? letter : others,
                at == 2 ? letter : others, at == 3 ? letter : others, at == 4 ? letter : others);
    }

    private static void typeLetters() {
        for (int i = 0; i < 5; i++) {
            int at = i;
            String where = "2 letter at " + at;
            EDGES.makes(where + ", the least", 2, Scene.of("b"), x -> typeAt(x, at, 0, -1),
                    Scene.of("ba"));
            EDGES.makes(where + ", the greatest", 2, Scene.of("b"), x -> typeAt(x, at, 3, -1),
                    Scene.of("bd"));
            EDGES.makes(where + " is left out", 5, Scene.of("b"), x -> typeAt(x, at, -1, 3),
                    Scene.of("bdddd"));
            for (int wrong : Edges.beside(-1, 3)) {
                EDGES.noWord(where + ", " + wrong, Scene.of("b"), x -> typeAt(x, at, wrong, 0));
                EDGES.noWord(where + ", " + wrong + " among none", Scene.of("b"),
                        x -> typeAt(x, at, wrong, -1));
                EDGES.noWord(where + ", " + wrong + " ahead of 33", Scene.of(A32),
                        x -> typeAt(x, at, wrong, 0));
            }
        }
        EDGES.makes("2 none at all", 0, Scene.of(), x -> typeAt(x, 0, -1, -1), Scene.of());
        EDGES.makes("2 one after the other", 5, Scene.of(), x -> x.type(0, 3, 0, 2, 1, 0),
                Scene.of("dacba"));
    }

    private static void typeLength() {
        String a27 = Due.times("a", 27);
        String a28 = Due.times("a", 28);
        EDGES.makes("2 five to 32", 32, Scene.of(a27), x -> typeAt(x, 0, 1, 1),
                Scene.of(a27 + "bbbbb"));
        EDGES.noTime("2 five to 33", Scene.of(a28), x -> typeAt(x, 0, 1, 1));
        EDGES.makes("2 NONE is not counted", 32, Scene.of(a28), x -> typeAt(x, 2, -1, 1),
                Scene.of(a28 + "bbbb"));
        EDGES.makes("2 one to 32", 32, Scene.of(A31), x -> typeAt(x, 4, 3, -1), Scene.of(A31 + "d"));
        EDGES.noTime("2 one to 33", Scene.of(A32), x -> typeAt(x, 4, 3, -1));
        EDGES.noTime("2 two to 33", Scene.of(A31), x -> x.type(0, 0, -1, -1, -1, 0));
        EDGES.noTime("2 five to 37", Scene.of(A32), x -> typeAt(x, 0, 0, 0));
        EDGES.answers("2 none behind 32", 32, Scene.of(A32), x -> typeAt(x, 0, -1, -1));
        EDGES.makes("2 the length is that of this rope", 1, Scene.of(A32, "", A32),
                x -> x.type(1, 0, -1, -1, -1, -1), Scene.of(A32, "a", A32));
    }

    private static void clear() {
        EDGES.noRope("3 clear", Scene.of("ab", "c"), (x, n) -> x.clear(n));
        EDGES.makes("3 clear none", 0, Scene.of("", "b"), x -> x.clear(0), Scene.of("", "b"));
        EDGES.makes("3 clear one", 1, Scene.of("a", "b"), x -> x.clear(0), Scene.of("", "b"));
        EDGES.makes("3 clear 32", 32, Scene.of("a", "b", "c", A32), x -> x.clear(3),
                Scene.of("a", "b", "c"));
    }

    private static void copy() {
        EDGES.noRope("4 copy", Scene.of("ab", "c"), (x, n) -> x.copy(n, 0));
        EDGES.noRope("4 copy from", Scene.of("ab", "c"), (x, n) -> x.copy(0, n));
        EDGES.noRope("4 copy both", Scene.of("ab", "c"), (x, n) -> x.copy(n, n));
        EDGES.makes("4 copy none over 32", 0, Scene.of(A32), x -> x.copy(0, 3), Scene.of());
        EDGES.makes("4 copy 32 over none", 32, Scene.of("", "", "", ABCD8), x -> x.copy(0, 3),
                Scene.of(ABCD8, "", "", ABCD8));
        EDGES.makes("4 copy shorter over longer", 1, Scene.of("abcd", "b"), x -> x.copy(0, 1),
                Scene.of("b", "b"));
        EDGES.answers("4 copy itself", 32, Scene.of("", ABCD8), x -> x.copy(1, 1));
        EDGES.answers("4 copy none over itself", 0, Scene.of("a"), x -> x.copy(3, 3));
    }

    private static void layPlace() {
        Scene scene = Scene.of("abc", "dd", "");
        EDGES.noRope("5 lay", scene, (x, n) -> x.lay(n, 0, 1));
        EDGES.noRope("5 lay other", scene, (x, n) -> x.lay(0, 0, n));
        EDGES.noPlaceBeside("5 place", 4, scene, (x, n) -> x.lay(0, n, 1));
        EDGES.noPlaceBeside("5 place, laid none", 4, scene, (x, n) -> x.lay(0, n, 2));
        EDGES.noPlaceBeside("5 place in none", 1, scene, (x, n) -> x.lay(2, n, 1));
        EDGES.makes("5 at the least place", 5, scene, x -> x.lay(0, 0, 1),
                Scene.of("ddabc", "dd"));
        EDGES.makes("5 ahead of the last one", 5, scene, x -> x.lay(0, 2, 1),
                Scene.of("abddc", "dd"));
        EDGES.makes("5 behind all", 5, scene, x -> x.lay(0, 3, 1), Scene.of("abcdd", "dd"));
        EDGES.makes("5 into none", 2, scene, x -> x.lay(2, 0, 1), Scene.of("abc", "dd", "dd"));
        EDGES.answers("5 none into none", 0, scene, x -> x.lay(2, 0, 3));
        EDGES.answers("5 none behind all", 3, scene, x -> x.lay(0, 3, 2));
    }

    private static void layLength() {
        EDGES.makes("5 to 32", 32, Scene.of(A31, "b"), x -> x.lay(0, 31, 1), Scene.of(A31 + "b", "b"));
        EDGES.refused("5 to 33", Scene.of(A32, "b"), x -> x.lay(0, 31, 1));
        EDGES.refused("5 one and 32", Scene.of("b", A32), x -> x.lay(0, 0, 1));
        EDGES.makes("5 16 and 16", 32, Scene.of(B16, B16), x -> x.lay(0, 8, 1),
                Scene.of(B16 + B16, B16));
        EDGES.refused("5 16 and 17", Scene.of(B16, B16 + "a"), x -> x.lay(0, 8, 1));
        EDGES.refused("5 32 and 32", Scene.of(A32, ABCD8), x -> x.lay(0, 32, 1));
        EDGES.makes("5 none and 32", 32, Scene.of("", ABCD8), x -> x.lay(0, 0, 1),
                Scene.of(ABCD8, ABCD8));
        EDGES.answers("5 32 and none", 32, Scene.of(ABCD8), x -> x.lay(0, 32, 1));
        EDGES.noPlace("5 place ahead of REFUSED", Scene.of(A32, "b"), x -> x.lay(0, 33, 1));
        EDGES.noPlace("5 rope ahead of REFUSED", Scene.of(A32, "b"), x -> x.lay(4, 0, 1));
    }

    private static void layItself() {
        String half = "abcdabcdabcdabcd";
        EDGES.makes("5 itself in front", 4, Scene.of("ab"), x -> x.lay(0, 0, 0), Scene.of("abab"));
        EDGES.makes("5 itself within", 6, Scene.of("abc"), x -> x.lay(0, 1, 0),
                Scene.of("aabcbc"));
        EDGES.makes("5 itself behind", 6, Scene.of("abc"), x -> x.lay(0, 3, 0),
                Scene.of("abcabc"));
        EDGES.makes("5 itself to 32", 32, Scene.of(half), x -> x.lay(0, 15, 0),
                Scene.of("abcdabcdabcdabc" + half + "d"));
        EDGES.refused("5 itself to 34", Scene.of(half + "a"), x -> x.lay(0, 15, 0));
        EDGES.answers("5 none into itself", 0, Scene.of(), x -> x.lay(0, 0, 0));
    }

    private static void cutPlace() {
        Scene scene = Scene.of("abcd", "", ABCD8);
        EDGES.noRope("6 cut", scene, (x, n) -> x.cut(n, 0, 0));
        EDGES.noRope("6 rope ahead of from above to", scene, (x, n) -> x.cut(n, 1, 0));
        EDGES.noPlaceBeside("6 from", 5, scene, (x, n) -> x.cut(0, n, 4));
        EDGES.noPlaceBeside("6 to", 5, scene, (x, n) -> x.cut(0, 0, n));
        EDGES.noPlaceBeside("6 from and to", 5, scene, (x, n) -> x.cut(0, n, n));
        EDGES.noPlaceBeside("6 to of none", 1, scene, (x, n) -> x.cut(1, 0, n));
        EDGES.noPlaceBeside("6 from of none", 1, scene, (x, n) -> x.cut(1, n, 0));
        EDGES.noPlaceBeside("6 to of 32", 33, scene, (x, n) -> x.cut(2, 0, n));
        EDGES.noPlaceBeside("6 from of 32", 33, scene, (x, n) -> x.cut(2, n, 32));
        EDGES.makes("6 all", 0, scene, x -> x.cut(0, 0, 4), Scene.of("", "", ABCD8));
        EDGES.makes("6 the first one", 3, scene, x -> x.cut(0, 0, 1), Scene.of("bcd", "", ABCD8));
        EDGES.makes("6 the last one", 3, scene, x -> x.cut(0, 3, 4), Scene.of("abc", "", ABCD8));
        EDGES.makes("6 all of 32", 0, scene, x -> x.cut(2, 0, 32), Scene.of("abcd"));
        EDGES.makes("6 the last one of 32", 31, scene, x -> x.cut(2, 31, 32),
                Scene.of("abcd", "", ABCD8.substring(0, 31)));
        EDGES.answers("6 nothing of none", 0, scene, x -> x.cut(1, 0, 0));
    }

    private static void cutFromAboveTo() {
        Scene scene = Scene.of("abcd");
        for (int i = 0; i <= 4; i++) {
            int from = i;
            EDGES.answers("6 from is to, " + from, 4, scene, x -> x.cut(0, from, from));
            if (from > 0) {
                EDGES.noWord("6 from is to and one, " + from, scene,
                        x -> x.cut(0, from, from - 1));
                EDGES.noWord("6 to 0, from " + from, scene, x -> x.cut(0, from, 0));
            }
        }
        EDGES.noPlace("6 from 5 ahead of above to", scene, x -> x.cut(0, 5, 4));
        EDGES.noPlace("6 to -1 ahead of from above to", scene, x -> x.cut(0, 0, -1));
    }

    private static void turn() {
        EDGES.noRope("7 turn", Scene.of("ab"), (x, n) -> x.turn(n));
        EDGES.answers("7 none", 0, Scene.of("ab"), x -> x.turn(1));
        EDGES.answers("7 one", 1, Scene.of("a"), x -> x.turn(0));
        EDGES.makes("7 two", 2, Scene.of("ab"), x -> x.turn(0), Scene.of("ba"));
        EDGES.makes("7 three", 3, Scene.of("abb"), x -> x.turn(0), Scene.of("bba"));
        EDGES.makes("7 32", 32, Scene.of("", "", "", ABCD8), x -> x.turn(3),
                Scene.of("", "", "", Due.times("dcba", 8)));
        EDGES.makes("7 31", 31, Scene.of(B16 + "aaaaaaaaaaaaaad"), x -> x.turn(0),
                Scene.of("daaaaaaaaaaaaaa" + B16));
    }

    private static void text() {
        EDGES.noRope("8 text", Scene.of("ab"), (x, n) -> x.text(n));
        EDGES.answers("8 none", "", Scene.of("ab"), x -> x.text(1));
        EDGES.answers("8 one of each", "abcd", Scene.of("ab", "abcd"), x -> x.text(1));
        EDGES.answers("8 32", ABCD8, Scene.of("", "", "", ABCD8), x -> x.text(3));
    }

    private static void order() {
        EDGES.noRope("9 order", Scene.of("ab"), (x, n) -> x.order(n, 0));
        EDGES.noRope("9 order of other", Scene.of("ab"), (x, n) -> x.order(0, n));
        orders("none and none", 0, "", "");
        orders("none and one", -1, "", "a");
        orders("one and none", 1, "a", "");
        orders("the shorter one, of greater letters", -1, "ddd", "aaaa");
        orders("31 and 32", -1, Due.times("d", 31), A32);
        orders("32 the same", 0, ABCD8, ABCD8);
        orders("32, the last one lesser", -1, A32, A31 + "b");
        orders("32, the last one greater", 1, A31 + "d", A31 + "c");
        orders("the first one lesser, the others greater", -1, "addd", "baaa");
        orders("one letter", 1, "b", "a");
        EDGES.answers("9 a rope and itself", 0, Scene.of("dc"), x -> x.order(0, 0));
    }

    private static void orders(String what, int want, String one, String other) {
        EDGES.answers("9 " + what, want, Scene.of(one, other), x -> x.order(0, 1));
        EDGES.answers("9 " + what + ", the other way round", -want, Scene.of(one, other),
                x -> x.order(1, 0));
    }

    /** Where letters stood that have gone nothing may be compared or found. */
    private static void orderBehindCutLetters() {
        Rewriterope x = new Rewriterope();
        Due.put(x, 0, "abd");
        Due.put(x, 1, "abc");
        x.cut(0, 2, 3);
        x.cut(1, 2, 3);
        EDGES.is("9 the same text behind cuts", 0, () -> x.order(0, 1));
        EDGES.is("9 the same text behind cuts", 0, () -> x.order(1, 0));
        Due.put(x, 2, "d");
        EDGES.is("10 what was cut does not stand", 0, () -> x.count(0, 2));
        EDGES.is("11 what was cut does not stand", -1, () -> x.find(0, 2, true));
        Due.put(x, 3, "abd");
        EDGES.is("10 nor with what is left", 0, () -> x.count(0, 3));
        x.clear(3);
        EDGES.is("9 all was cut", -1, () -> x.order(3, 0));
    }

    private static void countPlaces() {
        Scene scene = Scene.of("abab", "ab", "", A32);
        EDGES.noRope("10 count", scene, (x, n) -> x.count(n, 0));
        EDGES.noRope("10 count of other", scene, (x, n) -> x.count(0, n));
        EDGES.answers("10 none in none", 1, scene, x -> x.count(2, 2));
        EDGES.answers("10 none at each place to the length", 5, scene, x -> x.count(0, 2));
        EDGES.answers("10 none in 32", 33, scene, x -> x.count(3, 2));
        EDGES.answers("10 something in none", 0, scene, x -> x.count(2, 1));
        EDGES.answers("10 at the first and the last place", 2, scene, x -> x.count(0, 1));
        EDGES.answers("10 longer than it", 0, scene, x -> x.count(1, 0));
        EDGES.answers("10 itself", 1, scene, x -> x.count(0, 0));
        EDGES.answers("10 32 in 32", 1, scene, x -> x.count(3, 3));
        EDGES.answers("10 one in 32", 32, Scene.of(A32, "a"), x -> x.count(0, 1));
        EDGES.answers("10 31 in 32", 2, Scene.of(A32, A31), x -> x.count(0, 1));
        EDGES.answers("10 32 in 31", 0, Scene.of(A32, A31), x -> x.count(1, 0));
        EDGES.answers("10 without", 0, Scene.of(A32, "b"), x -> x.count(0, 1));
    }

    private static void find() {
        Scene scene = Scene.of("abab", "ab", "", A31 + "b");
        EDGES.noRope("11 find", scene, (x, n) -> x.find(n, 0, false));
        EDGES.noRope("11 find last", scene, (x, n) -> x.find(n, 0, true));
        EDGES.noRope("11 find other", scene, (x, n) -> x.find(0, n, false));
        EDGES.noRope("11 find other last", scene, (x, n) -> x.find(0, n, true));
        finds("none in none", 0, 0, "", "");
        finds("none in some", 0, 4, "abab", "");
        finds("none in 32", 0, 32, A32, "");
        finds("some in none", -1, -1, "", "a");
        finds("at the least place and the last one", 0, 2, "abab", "ab");
        finds("at one place alone", 1, 1, "bab", "ab");
        finds("places that overlap", 0, 2, "aaaa", "aa");
        finds("longer than it", -1, -1, "ab", "aba");
        finds("the same text", 0, 0, ABCD8, ABCD8);
        finds("one in 32", 0, 31, A32, "a");
        finds("the last one of 32", 31, 31, A31 + "b", "b");
        finds("its end is cut off", -1, -1, "ca", "ab");
        finds("without", -1, -1, A32, "b");
    }

    private static void finds(String what, int first, int last, String in, String part) {
        EDGES.answers("11 " + what, first, Scene.of(in, part), x -> x.find(0, 1, false));
        EDGES.answers("11 " + what + ", last", last, Scene.of(in, part), x -> x.find(0, 1, true));
    }
}

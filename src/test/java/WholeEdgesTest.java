import java.math.BigInteger;

/** The edges that promises 37 to 40 name, and the last of the 512 calls. */
public final class WholeEdgesTest {
    private static final Edges EDGES = new Edges();
    private static final String A32 = Due.times("a", 32);
    private static final String ABCD8 = Due.times("abcd", 8);

    public static void main(String[] args) {
        houseNumber();
        houseLetters();
        houseRefused();
        houseSteps();
        knock();
        soundRopes();
        soundJoined();
        soundFortieth();
        digestOfNew();
        digestWrapsAround();
        digestOfAll();
        lastOfAllCalls();
        EDGES.end("WholeEdgesTest");
    }

    private static void houseNumber() {
        Scene scene = Scene.of("ab", "", "", "a").rules("a>b").counted(4, 5, 6);
        int[] want = {4, 5, 3, 6};
        for (int i = 0; i < 4; i++) {
            int what = i;
            EDGES.answers("37 house " + what, want[i], scene, x -> x.house(what));
        }
        for (int what : Edges.beside(0, 3)) {
            EDGES.noWord("37 house " + what, scene, x -> x.house(what));
        }
    }

    private static void houseLetters() {
        EDGES.answers("37 no letters", 0, Scene.of(), x -> x.house(2));
        EDGES.answers("37 one in the first rope", 1, Scene.of("a"), x -> x.house(2));
        EDGES.answers("37 one in the last rope", 1, Scene.of("", "", "", "a"), x -> x.house(2));
        EDGES.answers("37 the most letters", 128, Scene.of(A32, A32, A32, A32), x -> x.house(2));
    }

    /** Each method that names REFUSED counts it; none of the others does. */
    private static void houseRefused() {
        Rewriterope x = Scene.of(A32, "", "b").rules("a>bb", "b>").counted(0, 0, 0).make();
        counts(x, "lay", x.lay(0, 0, 2), 1);
        counts(x, "rule", x.rule(1, 2), 2);
        counts(x, "falling", x.falling(1, 3), 3);
        counts(x, "flip", x.flip(1), 4);
        counts(x, "step", x.step(0, 0), 5);
        counts(x, "pick", x.pick(0, 0), 6);
        counts(x, "pick without a spot", x.pick(1, 0), 7);
        counts(x, "unwind", x.unwind(0, 1, 0), 8);
        Rewriterope y = Scene.of().rules("ab>cccc", "bddd>d").counted(0, 0, 0).make();
        counts(y, "complete", y.complete(), 1);
        EDGES.is("37 run is not refused", 0, () -> x.run(0, 0, 40));
        EDGES.is("37 spot is not refused", "", () -> x.spot(1, 0));
        EDGES.is("37 peak is not refused", "", () -> x.peak(99));
        EDGES.is("37 step of an end is not refused", -1, () -> x.step(1, 0));
        EDGES.is("37 nor counted", 8, () -> x.house(0));
    }

    private static void counts(Rewriterope x, String what, int answer, int refused) {
        EDGES.is("37 refused by " + what, -9, () -> answer);
        EDGES.is("37 counted by " + what, refused, () -> x.house(0));
    }

    private static void houseSteps() {
        Scene scene = Scene.of("aa").rules("a>b", "b>a").counted(0, 0, 0);
        String[] rules = {"a>b", "b>a"};
        EDGES.steps("37 step", 0, scene, x -> x.step(0, 0), Scene.of("ba").rules(rules), 1);
        EDGES.steps("37 pick", 2, scene, x -> x.pick(0, 1), Scene.of("ab").rules(rules), 1);
        EDGES.steps("37 run", 40, scene, x -> x.run(0, 0, 40), Scene.of("aa").rules(rules), 40);
        EDGES.makes("37 not unwind", 2, scene, x -> x.unwind(0, 1, 0), Scene.of("ba").rules(rules));
        EDGES.answers("37 not spot", "0 0 ba", scene, x -> x.spot(0, 0));
        EDGES.answers("37 not form", "aa", scene, x -> x.form(0));
        EDGES.answers("37 not told", -1, scene, x -> x.told(0, 1));
        Scene meeting = Scene.of("aa").rules("a>b", "a>c", "c>b");
        EDGES.answers("37 not meets", true, meeting, x -> x.meets(0));
        EDGES.answers("37 not complete", -1, meeting, Rewriterope::complete);
        EDGES.makes("37 not tidy", 1, Scene.of("a").rules("a>c", "c>b"), Rewriterope::tidy,
                Scene.of("a").rules("a>b", "c>b"));
        EDGES.answers("37 not isSound", true, scene, Rewriterope::isSound);
    }

    private static void knock() {
        EDGES.knocks("38 the first time", 1, Scene.of("a").counted(1, 0, 1), Rewriterope::knock, 1);
        EDGES.knocks("38 the second time", 2, Scene.of("a").counted(1, 1, 1), Rewriterope::knock, 1);
        EDGES.knocks("38 the 101st time", 101, Scene.of("a").counted(1, 100, 1), Rewriterope::knock,
                1);
    }

    private static void isSound(String what, Scene scene) {
        EDGES.answers("39 " + what, true, scene, Rewriterope::isSound);
    }

    private static void soundRopes() {
        isSound("a new object", Scene.of().counted(0, 0, 0));
        isSound("32 letters each", Scene.of(A32, ABCD8, A32, ABCD8).rules("ba>ab"));
        isSound("no rules", Scene.of("dcba", "d", "", "a"));
        isSound("a rule that does not fall, what comes is the same", Scene.of("a").rules("a>a"));
        isSound("what comes stands behind it", Scene.of("ab", "b").rules("a>bbbbbb", "b>c"));
        isSound("what comes has 37 letters", Scene.of(A32, "a").rules("a>bbbbbb"));
        isSound("what comes has none", Scene.of("a", "aaaaaa").rules("aaaaaa>", "a>"));
        isSound("256 spots each", Scene.of(A32, A32, A32, A32).eight("a>b"));
        isSound("256 spots each, falling", Scene.of(A32, A32, A32, A32).eight("a>"));
        isSound("peaks that do not meet", Scene.of("abc", "abcabc").rules("ab>a", "bc>b"));
        isSound("other ends by other ways, not all fall",
                Scene.of("aab", "ab").rules("ab>c", "a>d"));
    }

    private static void soundJoined() {
        String dc16 = Due.times("dc", 16);
        String cd15 = Due.times("cd", 15);
        String[] pairs = {"dc>", "cd>"};
        isSound("both joined 32", Scene.of(ABCD8.substring(0, 16), "", "", "b" + cd15.substring(0, 15)));
        isSound("both joined 32, forms shorter",
                Scene.of(dc16.substring(0, 16), cd15.substring(0, 16)).rules(pairs));
        isSound("both joined 33, forms shorter",
                Scene.of(dc16.substring(0, 16), cd15.substring(0, 17)).rules(pairs));
        isSound("both joined 38", Scene.of(dc16, cd15.substring(0, 5) + "a").rules(pairs));
        isSound("both joined 39", Scene.of(dc16, cd15.substring(0, 6) + "a").rules(pairs));
        isSound("both joined 63, forms of one", Scene.of(dc16, cd15 + "a").rules(pairs));
        isSound("both joined 64, no rules", Scene.of(ABCD8, A32));
        String[] six = {"aaaaaa>", "b>"};
        isSound("both joined 38, the first step to 32",
                Scene.of(A32.substring(13), A32.substring(13)).rules(six));
        isSound("both joined 39, no step to 32",
                Scene.of(A32.substring(13), A32.substring(12)).rules(six));
        isSound("both joined 38, only a step to 37 ahead",
                Scene.of("b" + A32.substring(14), A32.substring(13)).rules(six));
        isSound("their forms joined have a spot", Scene.of("bd", "db", "d", "cb").rules(pairs));
        isSound("the last one and the first one", Scene.of("cb", "", "", "bd").rules(pairs));
        isSound("each with none", Scene.of("cdc", "", "dcd", "").rules(pairs));
    }

    private static void soundFortieth() {
        String[] down = {"d>c", "c>b", "b>a"};
        String d13 = Due.times("d", 13);
        isSound("ends by 40 steps", Scene.of(d13 + "b", "b" + d13, d13 + "b", "a").rules(down));
        isSound("no ends by 40 steps", Scene.of(d13 + "bb", d13 + "c", A32, d13).rules(down));
        isSound("joined no end by 40 steps", Scene.of(d13, d13, d13, d13).rules(down));
        isSound("joined an end by 40 steps", Scene.of("ddddddd", "ddddddb").rules(down));
        isSound("joined no end by 41", Scene.of("ddddddd", "ddddddbb").rules(down));
    }

    /** The checksum of these values as one number without an end, then cut to 64 bits. */
    private static BigInteger whole(String values) {
        BigInteger d = BigInteger.valueOf(7847);
        for (String value : values.split(" ")) {
            boolean isSign = !value.matches("-?[0-9]+");
            int v = isSign ? value.charAt(0) : Integer.parseInt(value);
            d = d.multiply(BigInteger.valueOf(31)).add(BigInteger.valueOf(v));
        }
        return d;
    }

    private static void digestIs(String what, String values, Scene scene) {
        EDGES.answers("40 " + what, whole(values).longValue(), scene, Rewriterope::digest);
    }

    private static void digestOfNew() {
        String values = "0 0 0 0 0 0 0 0 1 0 -1 1";
        EDGES.answers("40 a new object", 1130599696050212968L, Scene.of().counted(0, 0, 0),
                Rewriterope::digest);
        digestIs("a new object by its values", values, Scene.of().counted(0, 0, 0));
        digestIs("counted", "3 4 0 5 0 0 0 0 1 0 -1 1", Scene.of().counted(3, 4, 5));
    }

    private static void digestWrapsAround() {
        // Up to the tenth value it stays within 64 bits; each checksum has 12 values at least.
        BigInteger most = BigInteger.valueOf(Long.MAX_VALUE);
        EDGES.is("40 ten values", true, () -> whole("0 0 0 0 0 0 0 0 0 0").compareTo(most) < 0);
        EDGES.is("40 eleven values", true, () -> whole("0 0 0 0 0 0 0 0 0 0 0").compareTo(most) > 0);
        EDGES.answers("40 above 0", 5993727484708604870L, Scene.of("ab").counted(0, 0, 0),
                Rewriterope::digest);
        EDGES.answers("40 below 0", -7095089115544289116L, Scene.of("abcd").counted(0, 0, 0),
                Rewriterope::digest);
    }

    private static void digestOfAll() {
        digestIs("a rope with a spot", "1 2 2 3 b a 1 a b 0 0 0 b a > a b 1 0 -1 1",
                Scene.of("ba").rules("ba>ab"));
        digestIs("the last rope", "1 2 2 3 0 0 0 b a 1 a b b a > a b 1 0 -1 1",
                Scene.of("", "", "", "ba").rules("ba>ab"));
        digestIs("a right of none", "1 2 1 3 d 1 0 0 0 d > 1 0 -1 1", Scene.of("d").rules("d>"));
        digestIs("rules that do not fall", "1 2 0 3 0 0 0 0 a > b a > c c > c 0 2 0 1",
                Scene.of().rules("a>b", "a>c", "c>c"));
        digestIs("the second peak does not meet", "1 2 0 3 0 0 0 0 a a > b b > c 1 2 1 1",
                Scene.of().rules("aa>", "bb>c"));
        String a32 = "a " + Due.times("a ", 31);
        String rope = a32 + "256 " + a32;
        digestIs("32 letters, 256 spots, 8 rules", "1 2 128 3 " + rope + rope + rope + rope
                        + Due.times("a > a ", 8) + "0 56 -1 1",
                Scene.of(A32, A32, A32, A32).eight("a>a"));
    }

    /** An object is used for 512 calls: the last one of them still answers. */
    private static void lastOfAllCalls() {
        EDGES.is("the 512th call, knock", 512, () -> knocked(511).knock());
        EDGES.is("the 512th call, house", 511, () -> knocked(511).house(1));
        EDGES.is("the 512th call, digest", whole("0 511 0 0 0 0 0 0 1 0 -1 1").longValue(),
                () -> knocked(511).digest());
        EDGES.is("the 512th call, type", 5, () -> knocked(511).type(3, 0, 1, 2, 3, 0));
        EDGES.is("the 512th call, step", -1, () -> knocked(511).step(0, 2));
    }

    private static Rewriterope knocked(int times) {
        Rewriterope x = new Rewriterope();
        for (int i = 0; i < times; i++) {
            x.knock();
        }
        return x;
    }
}

/** Promises 37 to 40: what is counted, knocks, soundness, and the checksum. */
public final class WholeTest {
    private static final Due DUE = new Due();

    public static void main(String[] args) {
        house();
        knock();
        isSound();
        digest();
        DUE.end("WholeTest");
    }

    private static void house() {
        Rewriterope x = Due.withRules("a>b", "b>");
        Due.put(x, 0, "aaa");
        Due.put(x, 3, "ab");
        DUE.is("letters of all ropes", 5, () -> x.house(2));
        x.step(0, 0);
        x.run(0, 0, 2);
        x.pick(3, 1);
        DUE.is("steps", 4, () -> x.house(3));
        DUE.is("letters", 3, () -> x.house(2));
        x.unwind(3, 1, 0);
        x.form(0);
        x.told(0, 3);
        x.spot(0, 0);
        x.complete();
        x.tidy();
        x.isSound();
        x.digest();
        DUE.is("steps of others are not counted", 4, () -> x.house(3));
        x.pick(3, 99);
        x.rule(1, 0);
        x.falling(0, 0);
        DUE.is("refusals", 3, () -> x.house(0));
        DUE.noWord("house 4", () -> x.house(4));
        DUE.noWord("house -1", () -> x.house(-1));
        DUE.is("exceptions are not counted", 3, () -> x.house(0));
        x.noRules();
        x.clear(0);
        DUE.is("refusals stay", 3, () -> x.house(0));
        DUE.is("steps stay", 4, () -> x.house(3));
    }

    private static void knock() {
        Rewriterope x = new Rewriterope();
        DUE.is("not yet", 0, () -> x.house(1));
        DUE.is("knock", 1, x::knock);
        DUE.is("knock", 2, x::knock);
        DUE.is("knocked", 2, () -> x.house(1));
        DUE.is("another object", 1, () -> new Rewriterope().knock());
    }

    private static void sound(String what, String text, String next, String... rules) {
        Rewriterope x = Due.withRules(rules);
        Due.put(x, 0, text);
        Due.put(x, 1, next);
        Due.put(x, 3, text);
        long before = x.digest();
        DUE.is(what, true, x::isSound);
        DUE.is(what + " changes nothing", before, x::digest);
        DUE.is(what + " is told", digestOf(x), x::digest);
    }

    private static void isSound() {
        sound("without rules", "abcd", "d");
        sound("falling, meeting", "babab", "abba", "ba>ab");
        sound("falling, not ends", Due.times("ba", 16), "b", "ba>ab");
        sound("joined too long", Due.times("ba", 16), Due.times("a", 32), "ba>ab", "aa>");
        sound("the ropes are other ones", "bbb", "aab", "bb>", "ba>ab");
        sound("joined they are shorter", "aab", "baac", "bb>", "aa>", "cc>");
        sound("joined, not ends", Due.times("ba", 8), Due.times("ba", 8), "ba>ab");
        sound("joined, 32", Due.times("dc", 8), Due.times("cd", 8), "dc>", "cd>");
        sound("joined, 33", Due.times("dc", 8), Due.times("cd", 8) + "d", "dc>", "cd>");
        sound("the next one is none", "ba", "", "ba>ab");
        sound("not meeting", "abc", "ab", "ab>d", "bc>b");
        sound("growing", Due.times("a", 32), "a", "a>aaaaaa", "aa>bbbbbb");
        sound("not falling", "aaab", "ba", "a>b", "b>a");
        // All peaks meet and the ways lead to other ends: that is sound, as not all rules fall.
        sound("not falling, other ends", "dcbaccd", "", "ac>", "a>b", "dcb>cdd", "b>a");
        sound("8 rules", "abcdabcd", "dcba", "d>c", "c>b", "b>a", "ab>a", "aa>a", "da>", "a>", "b>");
    }

    private static long mix(long sum, String text) {
        long mixed = sum;
        for (char sign : text.toCharArray()) {
            mixed = mixed * 31 + sign;
        }
        return mixed;
    }

    /** The checksum by what the other calls answer. */
    static long digestOf(Rewriterope x) {
        long d = 7847;
        for (int what = 0; what < 4; what++) {
            d = d * 31 + x.house(what);
        }
        for (int rope = 0; rope < 4; rope++) {
            d = mix(d, x.text(rope));
            d = d * 31 + x.spots(rope);
            d = mix(d, x.form(rope));
        }
        for (int rule = 0; rule < x.rules(); rule++) {
            d = mix(d, x.ruleText(rule));
        }
        d = d * 31 + (x.areFalling() ? 1 : 0);
        d = d * 31 + x.peaks();
        d = d * 31 + x.unmet();
        return d * 31 + (x.isSound() ? 1 : 0);
    }

    private static void digest() {
        Rewriterope x = new Rewriterope();
        DUE.is("new", digestOf(x), x::digest);
        x.knock();
        DUE.is("knocked", digestOf(x), x::digest);
        Due.addRules(x, "ba>ab", "aaa>b", "cd>", "d>cc");
        Due.put(x, 0, "babacd");
        Due.put(x, 2, "aaad");
        x.step(0, 1);
        x.pick(2, 99);
        DUE.is("used", digestOf(x), x::digest);
        DUE.is("again the same", x.digest(), x::digest);
    }
}

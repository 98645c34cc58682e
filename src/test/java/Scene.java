/**
 * An object of the class as an edge test wants it: the texts of its ropes, its rules, and what it
 * has counted. The same words tell what must stand after a call.
 */
final class Scene {
    private final String[] texts = {"", "", "", ""};
    private String[] rules = {};
    // Not 0, so that a call which sets a count back is seen.
    private int refused = 1;
    private int knocked = 2;
    private int steps = 3;

    private Scene() {
    }

    static Scene of(String... texts) {
        Scene scene = new Scene();
        System.arraycopy(texts, 0, scene.texts, 0, texts.length);
        return scene;
    }

    Scene rules(String... rules) {
        this.rules = rules;
        return this;
    }

    /** The same rule eight times. */
    Scene eight(String rule) {
        return rules(rule, rule, rule, rule, rule, rule, rule, rule);
    }

    Scene counted(int refused, int knocked, int steps) {
        this.refused = refused;
        this.knocked = knocked;
        this.steps = steps;
        return this;
    }

    /** This scene, when it has been refused, knocked and stepped so often more than another one. */
    Scene after(Scene before, int refusedMore, int knockedMore, int stepsMore) {
        Scene then = of(texts).rules(rules);
        return then.counted(before.refused + refusedMore, before.knocked + knockedMore,
                before.steps + stepsMore);
    }

    Rewriterope make() {
        Rewriterope x = new Rewriterope();
        for (int i = 0; i < refused; i++) {
            x.rule(0, 0);
        }
        for (int i = 0; i < knocked; i++) {
            x.knock();
        }
        if (steps > 0) {
            Due.addRules(x, "a>a");
            Due.put(x, 0, "a");
            for (int left = steps; left > 0; left -= 40) {
                x.run(0, 0, Math.min(left, 40));
            }
            x.noRules();
        }
        Due.addRules(x, rules);
        for (int rope = 0; rope < 4; rope++) {
            Due.put(x, rope, texts[rope]);
        }
        return x;
    }

    /** The scene in the words of toldOf(): what is held by its own words, the rest by a new object. */
    String told() {
        int letters = String.join("", texts).length();
        return String.join("|", texts) + " / " + String.join(" ", rules) + " / refused " + refused
                + " knocked " + knocked + " letters " + letters + " steps " + steps + " / "
                + seenOf(make());
    }

    /** All that an object tells of itself; some 40 calls. */
    static String toldOf(Rewriterope x) {
        return x.text(0) + "|" + x.text(1) + "|" + x.text(2) + "|" + x.text(3) + " / "
                + Due.rulesOf(x) + " / refused " + x.house(0) + " knocked " + x.house(1)
                + " letters " + x.house(2) + " steps " + x.house(3) + " / " + seenOf(x);
    }

    /** What follows from the ropes and the rules: it must never be that of earlier ones. */
    private static String seenOf(Rewriterope x) {
        StringBuilder seen = new StringBuilder();
        for (int rope = 0; rope < 4; rope++) {
            seen.append(x.spots(rope)).append(" spots to ").append(x.form(rope)).append(", ");
        }
        seen.append(x.peaks()).append(" peaks from ").append(x.peak(0));
        seen.append(" to ").append(x.peak(x.peaks() - 1)).append(", unmet ").append(x.unmet());
        return seen.append(", sound ").append(x.isSound()).toString();
    }
}

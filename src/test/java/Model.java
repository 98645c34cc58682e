import java.util.ArrayList;
import java.util.List;

/**
 * The document once more, in the most simple words that Java has: strings that are made anew.
 * ModelTest holds the class against it.
 */
final class Model {
    private final String[] ropes = {"", "", "", ""};
    private final List<String[]> rules = new ArrayList<>();
    private int refused = 0;
    private int knocked = 0;
    private int steps = 0;

    private void rope(int rope) {
        if (rope < 0 || rope > 3) {
            throw new IndexOutOfBoundsException();
        }
    }

    private void ropes(int rope, int other) {
        rope(rope);
        rope(other);
    }

    private void ruleIs(int rule) {
        if (rule < 0 || rule >= rules.size()) {
            throw new IndexOutOfBoundsException();
        }
    }

    private void wordIs(boolean is) {
        if (!is) {
            throw new IllegalArgumentException();
        }
    }

    private int refuse() {
        refused++;
        return -9;
    }

    int type(int rope, int a, int b, int c, int d, int e) {
        rope(rope);
        StringBuilder typed = new StringBuilder(ropes[rope]);
        for (int letter : new int[] {a, b, c, d, e}) {
            wordIs(letter >= -1 && letter <= 3);
            typed.append(letter < 0 ? "" : "abcd".substring(letter, letter + 1));
        }
        if (typed.length() > 32) {
            throw new IllegalStateException();
        }
        ropes[rope] = typed.toString();
        return typed.length();
    }

    int clear(int rope) {
        rope(rope);
        int gone = ropes[rope].length();
        ropes[rope] = "";
        return gone;
    }

    int copy(int rope, int from) {
        ropes(rope, from);
        ropes[rope] = ropes[from];
        return ropes[rope].length();
    }

    int lay(int rope, int place, int other) {
        ropes(rope, other);
        String it = ropes[rope];
        if (place < 0 || place > it.length()) {
            throw new IndexOutOfBoundsException();
        }
        String laid = it.substring(0, place) + ropes[other] + it.substring(place);
        if (laid.length() > 32) {
            return refuse();
        }
        ropes[rope] = laid;
        return laid.length();
    }

    int cut(int rope, int from, int to) {
        rope(rope);
        String it = ropes[rope];
        if (from < 0 || from > it.length() || to < 0 || to > it.length()) {
            throw new IndexOutOfBoundsException();
        }
        wordIs(from <= to);
        ropes[rope] = it.substring(0, from) + it.substring(to);
        return ropes[rope].length();
    }

    int turn(int rope) {
        rope(rope);
        ropes[rope] = new StringBuilder(ropes[rope]).reverse().toString();
        return ropes[rope].length();
    }

    String text(int rope) {
        rope(rope);
        return ropes[rope];
    }

    private static int order(String one, String other) {
        int byLength = Integer.compare(one.length(), other.length());
        return byLength != 0 ? byLength : Integer.signum(one.compareTo(other));
    }

    int order(int rope, int other) {
        ropes(rope, other);
        return order(ropes[rope], ropes[other]);
    }

    private static List<Integer> places(String in, String part) {
        List<Integer> places = new ArrayList<>();
        for (int place = 0; place <= in.length(); place++) {
            if (in.startsWith(part, place)) {
                places.add(place);
            }
        }
        return places;
    }

    int count(int rope, int other) {
        ropes(rope, other);
        return places(ropes[rope], ropes[other]).size();
    }

    int find(int rope, int other, boolean isLast) {
        ropes(rope, other);
        return isLast ? ropes[rope].lastIndexOf(ropes[other]) : ropes[rope].indexOf(ropes[other]);
    }

    private int add(String left, String right) {
        if (rules.size() == 8 || left.isEmpty() || left.length() > 6 || right.length() > 6) {
            return refuse();
        }
        rules.add(new String[] {left, right});
        return rules.size() - 1;
    }

    private int addFalling(String one, String other) {
        if (one.equals(other)) {
            return refuse();
        }
        return order(one, other) > 0 ? add(one, other) : add(other, one);
    }

    int rule(int from, int to) {
        ropes(from, to);
        return add(ropes[from], ropes[to]);
    }

    int falling(int one, int other) {
        ropes(one, other);
        return addFalling(ropes[one], ropes[other]);
    }

    int drop(int rule) {
        ruleIs(rule);
        rules.remove(rule);
        return rules.size();
    }

    int noRules() {
        int gone = rules.size();
        rules.clear();
        return gone;
    }

    int flip(int rule) {
        ruleIs(rule);
        String[] it = rules.get(rule);
        if (it[1].isEmpty()) {
            return refuse();
        }
        rules.set(rule, new String[] {it[1], it[0]});
        return falls(rule) ? 1 : 0;
    }

    int side(int rope, int rule, boolean isRight) {
        rope(rope);
        ruleIs(rule);
        ropes[rope] = rules.get(rule)[isRight ? 1 : 0];
        return ropes[rope].length();
    }

    int rules() {
        return rules.size();
    }

    String ruleText(int rule) {
        ruleIs(rule);
        return String.join(">", rules.get(rule));
    }

    boolean falls(int rule) {
        ruleIs(rule);
        return order(rules.get(rule)[1], rules.get(rule)[0]) < 0;
    }

    boolean areFalling() {
        return rules.stream().allMatch(rule -> order(rule[1], rule[0]) < 0);
    }

    private static String at(String text, int place, String[] rule) {
        return text.substring(0, place) + rule[1] + text.substring(place + rule[0].length());
    }

    /** Each spot: its place, its rule. */
    private static List<int[]> spotsOf(String text, List<String[]> rules) {
        List<int[]> spots = new ArrayList<>();
        for (int place = 0; place < text.length(); place++) {
            for (int rule = 0; rule < rules.size(); rule++) {
                if (text.startsWith(rules.get(rule)[0], place)) {
                    spots.add(new int[] {place, rule});
                }
            }
        }
        return spots;
    }

    private static int[] byWay(String text, int way, List<String[]> rules) {
        int[] best = null;
        for (int[] spot : spotsOf(text, rules)) {
            boolean isBetter = best == null
                    || way == 1 && spot[0] > best[0]
                    || way == 2 && spot[1] < best[1];
            best = isBetter ? spot : best;
        }
        return best;
    }

    /** The texts from one on, each the next one's forerunner. */
    private static List<String> row(String text, int way, int most, List<String[]> rules) {
        List<String> row = new ArrayList<>(List.of(text));
        while (row.size() <= most) {
            String last = row.get(row.size() - 1);
            int[] spot = byWay(last, way, rules);
            String next = spot == null ? null : at(last, spot[0], rules.get(spot[1]));
            if (next == null || next.length() > 32) {
                break;
            }
            row.add(next);
        }
        return row;
    }

    private static String formBy(String text, List<String[]> rules) {
        List<String> row = row(text, 0, 40, rules);
        return row.get(row.size() - 1);
    }

    private String formOf(String text) {
        return formBy(text, rules);
    }

    private boolean isEndText(String text) {
        return spotsOf(text, rules).isEmpty();
    }

    int step(int rope, int way) {
        rope(rope);
        wordIs(way >= 0 && way <= 2);
        int[] spot = byWay(ropes[rope], way, rules);
        if (spot == null) {
            return -1;
        }
        String next = at(ropes[rope], spot[0], rules.get(spot[1]));
        if (next.length() > 32) {
            return refuse();
        }
        ropes[rope] = next;
        steps++;
        return spot[0];
    }

    int run(int rope, int way, int most) {
        rope(rope);
        wordIs(way >= 0 && way <= 2 && most >= 1 && most <= 40);
        List<String> row = row(ropes[rope], way, most, rules);
        ropes[rope] = row.get(row.size() - 1);
        steps += row.size() - 1;
        return row.size() - 1;
    }

    int pick(int rope, int spot) {
        rope(rope);
        List<int[]> spots = spotsOf(ropes[rope], rules);
        if (spot < 0 || spot >= spots.size()) {
            return refuse();
        }
        String next = at(ropes[rope], spots.get(spot)[0], rules.get(spots.get(spot)[1]));
        if (next.length() > 32) {
            return refuse();
        }
        ropes[rope] = next;
        steps++;
        return next.length();
    }

    int unwind(int rope, int rule, int nth) {
        rope(rope);
        ruleIs(rule);
        String[] back = {rules.get(rule)[1], rules.get(rule)[0]};
        List<Integer> places = places(ropes[rope], back[0]);
        if (nth < 0 || nth >= places.size()) {
            return refuse();
        }
        String next = at(ropes[rope], places.get(nth), back);
        if (next.length() > 32) {
            return refuse();
        }
        ropes[rope] = next;
        return next.length();
    }

    int spots(int rope) {
        rope(rope);
        return spotsOf(ropes[rope], rules).size();
    }

    String spot(int rope, int spot) {
        rope(rope);
        List<int[]> spots = spotsOf(ropes[rope], rules);
        if (spot < 0 || spot >= spots.size()) {
            return "";
        }
        int[] it = spots.get(spot);
        return it[0] + " " + it[1] + " " + at(ropes[rope], it[0], rules.get(it[1]));
    }

    boolean isEnd(int rope) {
        rope(rope);
        return isEndText(ropes[rope]);
    }

    String form(int rope) {
        rope(rope);
        return formOf(ropes[rope]);
    }

    int told(int rope, int other) {
        ropes(rope, other);
        String one = formOf(ropes[rope]);
        String two = formOf(ropes[other]);
        if (one.equals(two)) {
            return 1;
        }
        return areFalling() && unmet() == -1 && isEndText(one) && isEndText(two) ? 0 : -1;
    }

    /** Each peak: it, its one side, its other side. */
    private List<String[]> allPeaks() {
        List<String[]> peaks = new ArrayList<>();
        for (String[] i : rules) {
            for (String[] j : rules) {
                for (int k = 1; k < Math.min(i[0].length(), j[0].length()); k++) {
                    if (i[0].endsWith(j[0].substring(0, k))) {
                        String rest = j[0].substring(k);
                        String front = i[0].substring(0, i[0].length() - k);
                        peaks.add(new String[] {i[0] + rest, i[1] + rest, front + j[1]});
                    }
                }
                if (i != j) {
                    for (int place : places(i[0], j[0])) {
                        peaks.add(new String[] {i[0], i[1], at(i[0], place, j)});
                    }
                }
            }
        }
        return peaks;
    }

    int peaks() {
        return allPeaks().size();
    }

    String peak(int peak) {
        if (peak < 0 || peak >= peaks()) {
            return "";
        }
        String[] it = allPeaks().get(peak);
        return it[0] + ":" + it[1] + "|" + it[2];
    }

    boolean meets(int peak) {
        if (peak < 0 || peak >= peaks()) {
            throw new IndexOutOfBoundsException();
        }
        String[] it = allPeaks().get(peak);
        return formOf(it[1]).equals(formOf(it[2]));
    }

    int unmet() {
        int number = 0;
        for (String[] peak : allPeaks()) {
            if (!formOf(peak[1]).equals(formOf(peak[2]))) {
                return number;
            }
            number++;
        }
        return -1;
    }

    int complete() {
        int unmet = unmet();
        if (unmet < 0) {
            return -1;
        }
        String[] it = allPeaks().get(unmet);
        return addFalling(formOf(it[1]), formOf(it[2]));
    }

    int tidy() {
        int changed = 0;
        for (int rule = rules.size() - 1; rule >= 0; rule--) {
            List<String[]> others = new ArrayList<>(rules);
            others.remove(rule);
            String[] it = rules.get(rule);
            String form = formBy(it[1], others);
            if (!spotsOf(it[0], others).isEmpty()) {
                if (formBy(it[0], others).equals(form)) {
                    rules.remove(rule);
                    changed++;
                }
            } else if (form.length() <= 6 && !form.equals(it[1])) {
                rules.set(rule, new String[] {it[0], form});
                changed++;
            }
        }
        return changed;
    }

    int house(int what) {
        wordIs(what >= 0 && what <= 3);
        return new int[] {refused, knocked, String.join("", ropes).length(), steps}[what];
    }

    int knock() {
        return ++knocked;
    }

    private boolean areSpotsSound(String text) {
        for (int[] spot : spotsOf(text, rules)) {
            String[] rule = rules.get(spot[1]);
            String then = at(text, spot[0], rule);
            boolean isBelow = order(rule[1], rule[0]) >= 0 || order(then, text) < 0;
            if (!isBelow || !text.startsWith(rule[0], spot[0])
                    || !then.startsWith(rule[1], spot[0])) {
                return false;
            }
        }
        return true;
    }

    private boolean areEndsSame(String text) {
        List<String> ends = new ArrayList<>();
        for (int way = 0; way < 3; way++) {
            List<String> row = row(text, way, 40, rules);
            String last = row.get(row.size() - 1);
            if (isEndText(last)) {
                ends.add(last);
            }
        }
        return ends.stream().distinct().count() <= 1;
    }

    private boolean isJoinedSame(String text, String next) {
        String joined = formOf(text + next);
        String parts = formOf(formOf(text) + formOf(next));
        boolean areEnds = isEndText(formOf(text)) && isEndText(formOf(next))
                && isEndText(joined) && isEndText(parts);
        boolean areShort = joined.length() <= 32 && parts.length() <= 32;
        return !areEnds || !areShort || joined.equals(parts);
    }

    boolean isSound() {
        boolean isSure = areFalling() && unmet() == -1;
        for (int rope = 0; rope < 4; rope++) {
            String text = ropes[rope];
            boolean isWhole = !isSure
                    || areEndsSame(text) && isJoinedSame(text, ropes[(rope + 1) % 4]);
            if (!areSpotsSound(text) || !isWhole) {
                return false;
            }
        }
        return true;
    }

    private static long mix(long sum, String text) {
        long mixed = sum;
        for (int i = 0; i < text.length(); i++) {
            mixed = mixed * 31 + text.charAt(i);
        }
        return mixed;
    }

    long digest() {
        long d = 7847;
        for (int what = 0; what < 4; what++) {
            d = d * 31 + house(what);
        }
        for (int rope = 0; rope < 4; rope++) {
            d = mix(d, ropes[rope]);
            d = d * 31 + spots(rope);
            d = mix(d, form(rope));
        }
        for (int rule = 0; rule < rules.size(); rule++) {
            d = mix(d, ruleText(rule));
        }
        d = d * 31 + (areFalling() ? 1 : 0);
        d = d * 31 + peaks();
        d = d * 31 + unmet();
        return d * 31 + (isSound() ? 1 : 0);
    }
}

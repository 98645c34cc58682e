/**
 * Ropes of letters under rules by which parts of them are replaced.
 *
 * <p>Every text that a call needs on its way is made once, with the object, and used again: a call
 * makes no object but the String that it returns.
 */
public final class Rewriterope {
    private static final int NONE = -1;
    private static final int REFUSED = -9;
    private static final int ROPES = 4;
    private static final int LETTERS = 4;
    private static final int MOST_LETTERS = 32;
    private static final int MOST_RULES = 8;
    private static final int MOST_SIDE = 6;
    private static final int MOST_STEPS = 40;
    private static final int WAYS = 3;
    private static final int DIGEST_START = 7847;
    private static final int DIGEST_FACTOR = 31;

    private final Text[] ropes = new Text[ROPES];
    private final RuleBook book = new RuleBook();
    private final PeakList tops = new PeakList(book);
    private final Text work = new Text();
    private final Text second = new Text();
    private final Text third = new Text();
    private int refusals = 0;
    private int knocks = 0;
    private int stepsMade = 0;

    public Rewriterope() {
        for (int rope = 0; rope < ROPES; rope++) {
            ropes[rope] = new Text();
        }
    }

    // ---- ropes

    public int type(int rope, int a, int b, int c, int d, int e)
            throws IndexOutOfBoundsException, IllegalArgumentException, IllegalStateException {
        needRope(rope);
        needLetterOrNone(a);
        needLetterOrNone(b);
        needLetterOrNone(c);
        needLetterOrNone(d);
        needLetterOrNone(e);
        work.makeEmpty();
        work.add(a);
        work.add(b);
        work.add(c);
        work.add(d);
        work.add(e);
        Text typed = ropes[rope];
        if (typed.length + work.length > MOST_LETTERS) {
            throw new IllegalStateException("the rope would be too long");
        }
        typed.addPart(work, 0, work.length);
        return typed.length;
    }

    public int clear(int rope) throws IndexOutOfBoundsException {
        needRope(rope);
        int gone = ropes[rope].length;
        ropes[rope].makeEmpty();
        return gone;
    }

    public int copy(int rope, int from) throws IndexOutOfBoundsException {
        needRope(rope);
        needRope(from);
        ropes[rope].become(ropes[from]);
        return ropes[rope].length;
    }

    public int lay(int rope, int place, int other) throws IndexOutOfBoundsException {
        needRope(rope);
        needRope(other);
        Text laid = ropes[rope];
        needPlace(laid, place);
        if (laid.length + ropes[other].length > MOST_LETTERS) {
            return refuse();
        }
        // The other rope may be this one: what is laid must not change while it is laid.
        work.become(ropes[other]);
        laid.replace(place, place, work);
        return laid.length;
    }

    public int cut(int rope, int from, int to)
            throws IndexOutOfBoundsException, IllegalArgumentException {
        needRope(rope);
        needPlace(ropes[rope], from);
        needPlace(ropes[rope], to);
        if (from > to) {
            throw new IllegalArgumentException("from is above to");
        }
        work.makeEmpty();
        ropes[rope].replace(from, to, work);
        return ropes[rope].length;
    }

    public int turn(int rope) throws IndexOutOfBoundsException {
        needRope(rope);
        ropes[rope].turnRound();
        return ropes[rope].length;
    }

    public String text(int rope) throws IndexOutOfBoundsException {
        needRope(rope);
        return ropes[rope].asString();
    }

    public int order(int rope, int other) throws IndexOutOfBoundsException {
        needRope(rope);
        needRope(other);
        return ropes[rope].compareWith(ropes[other]);
    }

    public int count(int rope, int other) throws IndexOutOfBoundsException {
        needRope(rope);
        needRope(other);
        int places = 0;
        for (int place = 0; place <= ropes[rope].length; place++) {
            if (ropes[rope].holds(ropes[other], place)) {
                places++;
            }
        }
        return places;
    }

    public int find(int rope, int other, boolean isLast) throws IndexOutOfBoundsException {
        needRope(rope);
        needRope(other);
        int found = NONE;
        for (int place = 0; place <= ropes[rope].length; place++) {
            boolean isWanted = isLast || found == NONE;
            if (isWanted && ropes[rope].holds(ropes[other], place)) {
                found = place;
            }
        }
        return found;
    }

    // ---- rules

    public int rule(int from, int to) throws IndexOutOfBoundsException {
        needRope(from);
        needRope(to);
        return addRule(ropes[from], ropes[to]);
    }

    public int falling(int one, int other) throws IndexOutOfBoundsException {
        needRope(one);
        needRope(other);
        return addFallingRule(ropes[one], ropes[other]);
    }

    public int drop(int rule) throws IndexOutOfBoundsException {
        needRule(rule);
        book.takeOut(rule);
        return book.size;
    }

    public int noRules() {
        int gone = book.size;
        book.takeAllOut();
        return gone;
    }

    public int flip(int rule) throws IndexOutOfBoundsException {
        needRule(rule);
        if (book.rights[rule].length == 0) {
            return refuse();
        }
        book.changeSides(rule);
        return book.isFalling(rule) ? 1 : 0;
    }

    public int side(int rope, int rule, boolean isRight) throws IndexOutOfBoundsException {
        needRope(rope);
        needRule(rule);
        ropes[rope].become(isRight ? book.rights[rule] : book.lefts[rule]);
        return ropes[rope].length;
    }

    public int rules() {
        return book.size;
    }

    public String ruleText(int rule) throws IndexOutOfBoundsException {
        needRule(rule);
        StringBuilder told = new StringBuilder();
        book.lefts[rule].appendTo(told);
        told.append('>');
        book.rights[rule].appendTo(told);
        return told.toString();
    }

    public boolean falls(int rule) throws IndexOutOfBoundsException {
        needRule(rule);
        return book.isFalling(rule);
    }

    public boolean areFalling() {
        return book.areAllFalling();
    }

    // ---- steps

    public int step(int rope, int way) throws IndexOutOfBoundsException, IllegalArgumentException {
        needRope(rope);
        needWay(way);
        int spot = book.spotByWay(ropes[rope], way);
        if (spot == NONE) {
            return NONE;
        }
        return rewriteRope(rope, spot) ? RuleBook.placeOf(spot) : refuse();
    }

    public int run(int rope, int way, int most)
            throws IndexOutOfBoundsException, IllegalArgumentException {
        needRope(rope);
        needWay(way);
        if (most < 1 || most > MOST_STEPS) {
            throw new IllegalArgumentException("no such number of steps");
        }
        int made = book.rewriteByWay(ropes[rope], way, most);
        stepsMade += made;
        return made;
    }

    public int pick(int rope, int spot) throws IndexOutOfBoundsException {
        needRope(rope);
        int picked = book.spotOfNumber(ropes[rope], spot);
        if (picked == NONE) {
            return refuse();
        }
        return rewriteRope(rope, picked) ? ropes[rope].length : refuse();
    }

    public int unwind(int rope, int rule, int nth) throws IndexOutOfBoundsException {
        needRope(rope);
        needRule(rule);
        Text unwound = ropes[rope];
        Text left = book.lefts[rule];
        Text right = book.rights[rule];
        int place = unwound.placeOfNumber(right, nth);
        if (place == NONE || unwound.length - right.length + left.length > MOST_LETTERS) {
            return refuse();
        }
        unwound.replace(place, place + right.length, left);
        return unwound.length;
    }

    public int spots(int rope) throws IndexOutOfBoundsException {
        needRope(rope);
        return book.countSpots(ropes[rope]);
    }

    public String spot(int rope, int spot) throws IndexOutOfBoundsException {
        needRope(rope);
        int shown = book.spotOfNumber(ropes[rope], spot);
        if (shown == NONE) {
            return "";
        }
        work.become(ropes[rope]);
        book.rewrite(work, shown);
        StringBuilder told = new StringBuilder();
        told.append(RuleBook.placeOf(shown)).append(' ');
        told.append(RuleBook.ruleOf(shown)).append(' ');
        work.appendTo(told);
        return told.toString();
    }

    public boolean isEnd(int rope) throws IndexOutOfBoundsException {
        needRope(rope);
        return book.isDone(ropes[rope]);
    }

    public String form(int rope) throws IndexOutOfBoundsException {
        needRope(rope);
        work.become(ropes[rope]);
        book.toForm(work);
        return work.asString();
    }

    public int told(int rope, int other) throws IndexOutOfBoundsException {
        needRope(rope);
        needRope(other);
        work.become(ropes[rope]);
        book.toForm(work);
        second.become(ropes[other]);
        book.toForm(second);
        if (work.isSameAs(second)) {
            return 1;
        }
        boolean areEnds = book.isDone(work) && book.isDone(second);
        boolean isSure = areEnds && book.areAllFalling() && tops.firstUnmet() == NONE;
        return isSure ? 0 : NONE;
    }

    // ---- peaks

    public int peaks() {
        return tops.size();
    }

    public String peak(int peak) {
        if (!tops.has(peak)) {
            return "";
        }
        tops.build(peak);
        StringBuilder told = new StringBuilder();
        tops.top.appendTo(told);
        told.append(':');
        tops.one.appendTo(told);
        told.append('|');
        tops.other.appendTo(told);
        return told.toString();
    }

    public boolean meets(int peak) throws IndexOutOfBoundsException {
        if (!tops.has(peak)) {
            throw new IndexOutOfBoundsException("no such peak");
        }
        return tops.isMet(peak);
    }

    public int unmet() {
        return tops.firstUnmet();
    }

    public int complete() {
        int peak = tops.firstUnmet();
        if (peak == NONE) {
            return NONE;
        }
        tops.build(peak);
        book.toForm(tops.one);
        book.toForm(tops.other);
        return addFallingRule(tops.one, tops.other);
    }

    public int tidy() {
        int changed = 0;
        for (int rule = book.size - 1; rule >= 0; rule--) {
            if (book.tidyRule(rule)) {
                changed++;
            }
        }
        return changed;
    }

    // ---- the whole

    public int house(int what) throws IllegalArgumentException {
        switch (what) {
            case 0:
                return refusals;
            case 1:
                return knocks;
            case 2:
                return lettersOfRopes();
            case 3:
                return stepsMade;
            default:
                throw new IllegalArgumentException("nothing of that number is counted");
        }
    }

    public int knock() {
        knocks++;
        return knocks;
    }

    public boolean isSound() {
        for (int rope = 0; rope < ROPES; rope++) {
            if (!areSpotsSound(ropes[rope]) || !isTurnSound(ropes[rope])) {
                return false;
            }
        }
        if (!book.areAllFalling() || tops.firstUnmet() != NONE) {
            return true;
        }
        for (int rope = 0; rope < ROPES; rope++) {
            Text next = ropes[(rope + 1) % ROPES];
            if (!isSameByWays(ropes[rope]) || !isSameJoined(ropes[rope], next)) {
                return false;
            }
        }
        return true;
    }

    public long digest() {
        long sum = DIGEST_START;
        sum = mix(sum, refusals);
        sum = mix(sum, knocks);
        sum = mix(sum, lettersOfRopes());
        sum = mix(sum, stepsMade);
        for (int rope = 0; rope < ROPES; rope++) {
            sum = ropes[rope].mixInto(sum);
            sum = mix(sum, book.countSpots(ropes[rope]));
            work.become(ropes[rope]);
            book.toForm(work);
            sum = work.mixInto(sum);
        }
        for (int rule = 0; rule < book.size; rule++) {
            sum = book.lefts[rule].mixInto(sum);
            sum = mix(sum, '>');
            sum = book.rights[rule].mixInto(sum);
        }
        sum = mix(sum, book.areAllFalling() ? 1 : 0);
        sum = mix(sum, tops.size());
        sum = mix(sum, tops.firstUnmet());
        return mix(sum, isSound() ? 1 : 0);
    }

    // ---- what the calls share

    private static void needRope(int rope) {
        if (rope < 0 || rope >= ROPES) {
            throw new IndexOutOfBoundsException("no such rope");
        }
    }

    private void needRule(int rule) {
        if (rule < 0 || rule >= book.size) {
            throw new IndexOutOfBoundsException("no such rule");
        }
    }

    private static void needPlace(Text text, int place) {
        if (place < 0 || place > text.length) {
            throw new IndexOutOfBoundsException("no such place");
        }
    }

    private static void needLetterOrNone(int letter) {
        if (letter < NONE || letter >= LETTERS) {
            throw new IllegalArgumentException("no such letter");
        }
    }

    private static void needWay(int way) {
        if (way < 0 || way >= WAYS) {
            throw new IllegalArgumentException("no such way");
        }
    }

    private int refuse() {
        refusals++;
        return REFUSED;
    }

    private int addRule(Text left, Text right) {
        boolean fits = left.length > 0 && left.length <= MOST_SIDE && right.length <= MOST_SIDE;
        if (!fits || book.size >= MOST_RULES) {
            return refuse();
        }
        book.putIn(book.size, left, right);
        return book.size - 1;
    }

    private int addFallingRule(Text one, Text other) {
        int order = one.compareWith(other);
        if (order == 0) {
            return refuse();
        }
        return order > 0 ? addRule(one, other) : addRule(other, one);
    }

    private boolean rewriteRope(int rope, int spot) {
        if (!book.fits(ropes[rope], spot)) {
            return false;
        }
        book.rewrite(ropes[rope], spot);
        stepsMade++;
        return true;
    }

    private int lettersOfRopes() {
        int letters = 0;
        for (int rope = 0; rope < ROPES; rope++) {
            letters += ropes[rope].length;
        }
        return letters;
    }

    private static long mix(long sum, int value) {
        return sum * DIGEST_FACTOR + value;
    }

    // ---- what isSound() asks

    private boolean areSpotsSound(Text text) {
        int spot = book.spotFrom(text, 0);
        for (int looked = 0; looked < Text.ROOM * MOST_RULES && spot != NONE; looked++) {
            int place = RuleBook.placeOf(spot);
            int rule = RuleBook.ruleOf(spot);
            work.become(text);
            book.rewrite(work, spot);
            boolean isBelow = !book.isFalling(rule) || work.compareWith(text) < 0;
            boolean stood = text.holds(book.lefts[rule], place);
            if (!isBelow || !stood || !work.holds(book.rights[rule], place)) {
                return false;
            }
            spot = book.spotFrom(text, spot + 1);
        }
        return true;
    }

    private boolean isTurnSound(Text text) {
        work.become(text);
        work.turnRound();
        work.turnRound();
        return work.isSameAs(text);
    }

    private boolean isSameByWays(Text text) {
        boolean isEndKnown = false;
        for (int way = 0; way < WAYS; way++) {
            second.become(text);
            book.rewriteByWay(second, way, MOST_STEPS);
            if (!book.isDone(second)) {
                continue;
            }
            if (isEndKnown && !second.isSameAs(work)) {
                return false;
            }
            work.become(second);
            isEndKnown = true;
        }
        return true;
    }

    private boolean isSameJoined(Text text, Text next) {
        second.become(text);
        third.become(next);
        book.toForm(second);
        book.toForm(third);
        boolean areEnds = book.isDone(second) && book.isDone(third);
        second.addPart(third, 0, third.length);
        book.toForm(second);
        work.become(text);
        work.addPart(next, 0, next.length);
        book.toForm(work);
        areEnds = areEnds && book.isDone(work) && book.isDone(second);
        boolean areShort = work.length <= MOST_LETTERS && second.length <= MOST_LETTERS;
        return !areEnds || !areShort || work.isSameAs(second);
    }

    /** A row of letters that is changed in its place. */
    private static final class Text {
        // isSound() joins two ROPES; that is room, too, for what spot() shows of one STEP too long.
        static final int ROOM = MOST_LETTERS + MOST_LETTERS;

        final byte[] letters = new byte[ROOM];
        int length = 0;

        void makeEmpty() {
            length = 0;
        }

        /** Adds a letter behind the others; NONE is left out. */
        void add(int letter) {
            if (letter != NONE && length < ROOM) {
                letters[length] = (byte) letter;
                length++;
            }
        }

        void addPart(Text source, int from, int to) {
            int added = to - from;
            if (from < 0 || added < 0 || to > source.length || length + added > ROOM) {
                return;
            }
            System.arraycopy(source.letters, from, letters, length, added);
            length += added;
        }

        void become(Text source) {
            System.arraycopy(source.letters, 0, letters, 0, source.length);
            length = source.length;
        }

        /** Puts another text in the place of the letters from one place to ahead of another. */
        void replace(int from, int to, Text by) {
            int grown = length - (to - from) + by.length;
            if (from < 0 || to < from || to > length || grown > ROOM) {
                return;
            }
            System.arraycopy(letters, to, letters, from + by.length, length - to);
            System.arraycopy(by.letters, 0, letters, from, by.length);
            length = grown;
        }

        void turnRound() {
            for (int low = 0, high = length - 1; low < high; low++, high--) {
                byte kept = letters[low];
                letters[low] = letters[high];
                letters[high] = kept;
            }
        }

        /** Whether a text STANDS in this one at a place. */
        boolean holds(Text part, int place) {
            if (place < 0 || place > length - part.length) {
                return false;
            }
            for (int i = 0; i < part.length; i++) {
                if (letters[place + i] != part.letters[i]) {
                    return false;
                }
            }
            return true;
        }

        /** The place of a number, from 0 on, at which a text STANDS in this one; NONE without. */
        int placeOfNumber(Text part, int number) {
            int passed = 0;
            for (int place = 0; place <= length; place++) {
                if (holds(part, place)) {
                    if (passed == number) {
                        return place;
                    }
                    passed++;
                }
            }
            return NONE;
        }

        /** Whether the last letters of this text, so many, are the first ones of another. */
        boolean reachesInto(Text next, int shared) {
            if (shared < 0 || shared > length || shared > next.length) {
                return false;
            }
            for (int i = 0; i < shared; i++) {
                if (letters[length - shared + i] != next.letters[i]) {
                    return false;
                }
            }
            return true;
        }

        boolean isSameAs(Text other) {
            return length == other.length && holds(other, 0);
        }

        /** -1, 0 or 1, by ORDER. */
        int compareWith(Text other) {
            if (length != other.length) {
                return length < other.length ? -1 : 1;
            }
            for (int i = 0; i < length; i++) {
                if (letters[i] != other.letters[i]) {
                    return letters[i] < other.letters[i] ? -1 : 1;
                }
            }
            return 0;
        }

        void appendTo(StringBuilder told) {
            for (int i = 0; i < length; i++) {
                told.append((char) ('a' + letters[i]));
            }
        }

        String asString() {
            StringBuilder told = new StringBuilder();
            appendTo(told);
            return told.toString();
        }

        long mixInto(long sum) {
            long mixed = sum;
            for (int i = 0; i < length; i++) {
                mixed = mix(mixed, 'a' + letters[i]);
            }
            return mixed;
        }
    }

    /**
     * The RULES, and what they make of a text. A SPOT is told as one number, its place times the
     * most RULES and its RULE: so lesser numbers are the SPOTS that come first.
     */
    private static final class RuleBook {
        final Text[] lefts = new Text[MOST_RULES];
        final Text[] rights = new Text[MOST_RULES];
        final Text keptLeft = new Text();
        final Text keptRight = new Text();
        final Text leftForm = new Text();
        final Text rightForm = new Text();
        int size = 0;
        // So that a PeakList sees whether what it knows still holds.
        int changes = 0;

        RuleBook() {
            for (int rule = 0; rule < MOST_RULES; rule++) {
                lefts[rule] = new Text();
                rights[rule] = new Text();
            }
        }

        static int placeOf(int spot) {
            return spot / MOST_RULES;
        }

        static int ruleOf(int spot) {
            return spot % MOST_RULES;
        }

        /** Puts a RULE in at a number; those from there on get a number more. */
        void putIn(int rule, Text left, Text right) {
            if (rule < 0 || rule > size || size >= MOST_RULES) {
                return;
            }
            for (int moved = size; moved > rule; moved--) {
                lefts[moved].become(lefts[moved - 1]);
                rights[moved].become(rights[moved - 1]);
            }
            lefts[rule].become(left);
            rights[rule].become(right);
            size++;
            changes++;
        }

        void takeOut(int rule) {
            if (rule < 0 || rule >= size) {
                return;
            }
            for (int moved = rule; moved < size - 1; moved++) {
                lefts[moved].become(lefts[moved + 1]);
                rights[moved].become(rights[moved + 1]);
            }
            size--;
            changes++;
        }

        void takeAllOut() {
            size = 0;
            changes++;
        }

        void changeSides(int rule) {
            keptLeft.become(lefts[rule]);
            lefts[rule].become(rights[rule]);
            rights[rule].become(keptLeft);
            changes++;
        }

        boolean isFalling(int rule) {
            return rights[rule].compareWith(lefts[rule]) < 0;
        }

        boolean areAllFalling() {
            for (int rule = 0; rule < size; rule++) {
                if (!isFalling(rule)) {
                    return false;
                }
            }
            return true;
        }

        /** The first SPOT of a text that is not ahead of a given one; NONE without. */
        int spotFrom(Text text, int start) {
            int rule = ruleOf(start);
            for (int place = placeOf(start); place < text.length; place++) {
                for (; rule < size; rule++) {
                    if (text.holds(lefts[rule], place)) {
                        return place * MOST_RULES + rule;
                    }
                }
                rule = 0;
            }
            return NONE;
        }

        private int spotOfGreatestPlace(Text text) {
            for (int place = text.length - 1; place >= 0; place--) {
                for (int rule = 0; rule < size; rule++) {
                    if (text.holds(lefts[rule], place)) {
                        return place * MOST_RULES + rule;
                    }
                }
            }
            return NONE;
        }

        private int spotOfLeastRule(Text text) {
            for (int rule = 0; rule < size; rule++) {
                for (int place = 0; place < text.length; place++) {
                    if (text.holds(lefts[rule], place)) {
                        return place * MOST_RULES + rule;
                    }
                }
            }
            return NONE;
        }

        int spotByWay(Text text, int way) {
            switch (way) {
                case 1:
                    return spotOfGreatestPlace(text);
                case 2:
                    return spotOfLeastRule(text);
                default:
                    return spotFrom(text, 0);
            }
        }

        int countSpots(Text text) {
            int spots = 0;
            for (int place = 0; place < text.length; place++) {
                for (int rule = 0; rule < size; rule++) {
                    if (text.holds(lefts[rule], place)) {
                        spots++;
                    }
                }
            }
            return spots;
        }

        /** The SPOT of a number, from 0 on; NONE without. */
        int spotOfNumber(Text text, int number) {
            if (number < 0 || number >= text.length * MOST_RULES) {
                return NONE;
            }
            int spot = spotFrom(text, 0);
            for (int passed = 0; passed < number && spot != NONE; passed++) {
                spot = spotFrom(text, spot + 1);
            }
            return spot;
        }

        boolean isDone(Text text) {
            return spotFrom(text, 0) == NONE;
        }

        /** Whether a text is not too long for a ROPE when it is rewritten at a SPOT. */
        boolean fits(Text text, int spot) {
            int rule = ruleOf(spot);
            return text.length - lefts[rule].length + rights[rule].length <= MOST_LETTERS;
        }

        void rewrite(Text text, int spot) {
            int rule = ruleOf(spot);
            int place = placeOf(spot);
            text.replace(place, place + lefts[rule].length, rights[rule]);
        }

        /** Rewrites by a WAY as long as it goes and fits; returns how many STEPS were made. */
        int rewriteByWay(Text text, int way, int most) {
            for (int made = 0; made < most; made++) {
                int spot = spotByWay(text, way);
                if (spot == NONE || !fits(text, spot)) {
                    return made;
                }
                rewrite(text, spot);
            }
            return most;
        }

        /** Makes a text its FORM. Not by rewriteByWay(), as calls may stand eight deep only. */
        void toForm(Text text) {
            for (int made = 0; made < MOST_STEPS; made++) {
                int spot = spotFrom(text, 0);
                if (spot == NONE || !fits(text, spot)) {
                    return;
                }
                rewrite(text, spot);
            }
        }

        /**
         * Tidies one RULE; returns whether it went or became another one. It is taken out while
         * the FORMS are made, as they are meant by the other RULES alone.
         */
        boolean tidyRule(int rule) {
            keptLeft.become(lefts[rule]);
            keptRight.become(rights[rule]);
            takeOut(rule);
            rightForm.become(keptRight);
            toForm(rightForm);
            if (!isDone(keptLeft)) {
                leftForm.become(keptLeft);
                toForm(leftForm);
                boolean isTold = leftForm.isSameAs(rightForm);
                if (!isTold) {
                    putIn(rule, keptLeft, keptRight);
                }
                return isTold;
            }
            boolean isOther = rightForm.length <= MOST_SIDE && !rightForm.isSameAs(keptRight);
            putIn(rule, keptLeft, isOther ? rightForm : keptRight);
            return isOther;
        }
    }

    /**
     * The PEAKS of the RULES as they are. They are listed again when the RULES have changed, and
     * which one does not MEET is kept till then, as many calls ask for it.
     */
    private static final class PeakList {
        static final int UNKNOWN = -2;
        static final int OVERLAPS = MOST_SIDE - 1;
        // How two LEFTS lie: overlapping by 1 and more, or the one in the other at 0 and more.
        static final int LIES = OVERLAPS + MOST_SIDE;

        final RuleBook book;
        final int[] listed = new int[MOST_RULES * MOST_RULES * LIES];
        final Text top = new Text();
        final Text one = new Text();
        final Text other = new Text();
        int listedSize = 0;
        int listedChanges = 0;
        int knownUnmet = UNKNOWN;

        PeakList(RuleBook book) {
            this.book = book;
        }

        int size() {
            list();
            return listedSize;
        }

        boolean has(int peak) {
            return peak >= 0 && peak < size();
        }

        private void list() {
            if (listedChanges == book.changes) {
                return;
            }
            listedChanges = book.changes;
            listedSize = 0;
            knownUnmet = UNKNOWN;
            for (int first = 0; first < book.size; first++) {
                for (int next = 0; next < book.size; next++) {
                    listOverlaps(first, next);
                    if (first != next) {
                        listPlaces(first, next);
                    }
                }
            }
        }

        private void listOverlaps(int first, int next) {
            Text left = book.lefts[first];
            Text nextLeft = book.lefts[next];
            int shortest = Math.min(left.length, nextLeft.length);
            for (int shared = 1; shared < shortest; shared++) {
                if (left.reachesInto(nextLeft, shared)) {
                    enter(first, next, shared - 1);
                }
            }
        }

        private void listPlaces(int first, int next) {
            Text left = book.lefts[first];
            for (int place = 0; place < left.length; place++) {
                if (left.holds(book.lefts[next], place)) {
                    enter(first, next, OVERLAPS + place);
                }
            }
        }

        private void enter(int first, int next, int lie) {
            if (listedSize < listed.length) {
                listed[listedSize] = (first * MOST_RULES + next) * LIES + lie;
                listedSize++;
            }
        }

        /** Makes the three texts those of a PEAK that has been listed. */
        void build(int peak) {
            if (peak < 0 || peak >= listedSize) {
                return;
            }
            int pair = listed[peak] / LIES;
            int lie = listed[peak] % LIES;
            if (lie < OVERLAPS) {
                buildOverlap(pair / MOST_RULES, pair % MOST_RULES, lie + 1);
            } else {
                buildPlace(pair / MOST_RULES, pair % MOST_RULES, lie - OVERLAPS);
            }
        }

        private void buildOverlap(int first, int next, int shared) {
            Text left = book.lefts[first];
            Text nextLeft = book.lefts[next];
            top.become(left);
            top.addPart(nextLeft, shared, nextLeft.length);
            one.become(book.rights[first]);
            one.addPart(nextLeft, shared, nextLeft.length);
            other.become(top);
            other.replace(left.length - shared, top.length, book.rights[next]);
        }

        private void buildPlace(int first, int next, int place) {
            top.become(book.lefts[first]);
            one.become(book.rights[first]);
            other.become(top);
            other.replace(place, place + book.lefts[next].length, book.rights[next]);
        }

        /** Whether a PEAK MEETS; its sides are their FORMS then. */
        boolean isMet(int peak) {
            build(peak);
            book.toForm(one);
            book.toForm(other);
            return one.isSameAs(other);
        }

        int firstUnmet() {
            list();
            if (knownUnmet == UNKNOWN) {
                knownUnmet = NONE;
                for (int peak = 0; peak < listedSize && knownUnmet == NONE; peak++) {
                    if (!isMet(peak)) {
                        knownUnmet = peak;
                    }
                }
            }
            return knownUnmet;
        }
    }
}

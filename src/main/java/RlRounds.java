import java.util.Arrays;

/**
 * Triples and what follows from them by the rules of the document: the round of each triple, all
 * the ways to it, the groups of what is the same, and what contradicts itself.
 *
 * <p>What holds is derived when a question needs it, and kept until something SAID or a rule
 * changes. All rows are made in the constructors; no call makes an object.
 */
public final class RlRounds {
    public static final int BAD = -1;
    public static final int NO = -2;
    public static final int FULL = -3;
    public static final int LARGE = -4;

    private static final int TERMS = 32;
    private static final int CODES = TERMS * TERMS * TERMS;
    private static final int MOST_SAID = 120;
    private static final int MOST_HELD = 400;
    private static final int MOST_PREMISES = 4;
    private static final int MOST_CLASH_PREMISES = 3;
    private static final int RULES = 21;
    private static final int CLASH_KINDS = 3;
    private static final int ALL_RULES = (1 << RULES) - 1;
    private static final int NONE = -1;

    private final int[] saidCodes;
    private int saidCount;
    private int rulesOn;
    private boolean derived;
    private final Triples held;
    private final Deriver deriver;
    private final Seeker seeker;

    public RlRounds() {
        saidCodes = new int[MOST_SAID];
        saidCount = 0;
        rulesOn = ALL_RULES;
        derived = false;
        held = new Triples();
        deriver = new Deriver(held);
        seeker = new Seeker(held);
    }

    public int say(int s, int p, int o) {
        if (!areTerms(s, p, o)) {
            return BAD;
        }
        int code = codeOf(s, p, o);
        if (placeOfSaid(code) != NONE) {
            return 0;
        }
        if (saidCount >= MOST_SAID) {
            return FULL;
        }
        saidCodes[saidCount] = code;
        saidCount++;
        derived = false;
        return 1;
    }

    public int unsay(int s, int p, int o) {
        if (!areTerms(s, p, o)) {
            return BAD;
        }
        int place = placeOfSaid(codeOf(s, p, o));
        if (place == NONE) {
            return 0;
        }
        // No answer depends on the order of what is SAID, so the last one may fill the gap.
        saidCount--;
        saidCodes[place] = saidCodes[saidCount];
        derived = false;
        return 1;
    }

    public int rule(int rule, boolean on) {
        if (rule < 0 || rule >= RULES) {
            return BAD;
        }
        if (contains(rulesOn, rule) == on) {
            return 0;
        }
        rulesOn ^= 1 << rule;
        derived = false;
        return 1;
    }

    public int run() {
        return isTooLarge() ? LARGE : deriver.lastRound();
    }

    public int size() {
        return isTooLarge() ? LARGE : deriver.count;
    }

    public int triple(int i) {
        if (isTooLarge()) {
            return LARGE;
        }
        if (i < 0 || i >= deriver.count) {
            return NO;
        }
        return held.codeAt(i);
    }

    public int round(int s, int p, int o) {
        if (!areTerms(s, p, o)) {
            return BAD;
        }
        return isTooLarge() ? LARGE : deriver.roundOf(codeOf(s, p, o));
    }

    public int ways(int s, int p, int o) {
        if (!areTerms(s, p, o)) {
            return BAD;
        }
        return isTooLarge() ? LARGE : seeker.countWays(codeOf(s, p, o), rulesOn);
    }

    public int way(int s, int p, int o, int i, int what) {
        if (!areTerms(s, p, o) || what < 0 || what > MOST_PREMISES) {
            return BAD;
        }
        if (isTooLarge()) {
            return LARGE;
        }
        if (i < 0 || !seeker.seekWay(codeOf(s, p, o), rulesOn, i)) {
            return NO;
        }
        return what == 0 ? seeker.foundRow : seeker.foundPremise(what);
    }

    public int clashes() {
        return isTooLarge() ? LARGE : seeker.countClashes();
    }

    public int clash(int i, int what) {
        if (what < 0 || what > MOST_CLASH_PREMISES) {
            return BAD;
        }
        if (isTooLarge()) {
            return LARGE;
        }
        if (i < 0 || !seeker.seekClash(i)) {
            return NO;
        }
        return what == 0 ? seeker.foundRow - RULES : seeker.foundPremise(what);
    }

    public int group(int term) {
        if (!isTerm(term)) {
            return BAD;
        }
        if (isTooLarge()) {
            return LARGE;
        }
        int same = held.objectsFor(term, Table.SAME, NONE);
        return Math.min(term, leastOf(same));
    }

    public int said() {
        return saidCount;
    }

    /** Derives what holds if a change has made it stale. */
    private boolean isTooLarge() {
        if (!derived) {
            deriver.derive(saidCodes, saidCount, rulesOn);
            derived = true;
        }
        return deriver.large;
    }

    private int placeOfSaid(int code) {
        for (int i = 0; i < saidCount; i++) {
            if (saidCodes[i] == code) {
                return i;
            }
        }
        return NONE;
    }

    private static boolean isTerm(int term) {
        return term >= 0 && term < TERMS;
    }

    private static boolean areTerms(int s, int p, int o) {
        return isTerm(s) && isTerm(p) && isTerm(o);
    }

    private static int codeOf(int s, int p, int o) {
        return (s * TERMS + p) * TERMS + o;
    }

    /** Sets of terms are held as the bits of an int. */
    private static boolean contains(int set, int term) {
        return (set >>> term & 1) != 0;
    }

    /** The least term of a set, or TERMS when it is empty. */
    private static int leastOf(int set) {
        return Integer.bitCount((set & -set) - 1);
    }

    private static int withoutLeast(int set) {
        return set & set - 1;
    }

    /**
     * The rules and, in the rows behind them, the kinds of clashes, as patterns of three slots
     * each. A slot below TERMS is that term; the others are the letters of the document.
     */
    private static final class Table {
        static final int TYPE = 0;
        static final int BELOW = 1;
        static final int UNDER = 2;
        static final int FROM = 3;
        static final int TO = 4;
        static final int TURNED = 5;
        static final int SAME = 6;
        static final int OTHER = 7;
        static final int APART = 8;
        static final int BY = 9;
        static final int SOME = 10;
        static final int ALL = 11;
        static final int HAS = 12;
        static final int FIRST = 13;
        static final int THEN = 14;
        static final int FAR = 15;
        static final int BOTH = 16;
        static final int ONE = 17;
        static final int ONCE = 18;
        static final int NEVER = 19;

        static final int X = 32;
        static final int Y = 33;
        static final int Z = 34;
        static final int V = 35;
        static final int P = 36;
        static final int Q = 37;
        static final int R = 38;
        static final int C = 39;
        static final int D = 40;
        static final int E = 41;

        private static final int SLOTS = 3;
        private static final int ROW = SLOTS * MOST_PREMISES;

        /** How many premises each row has. */
        private static final int[] COUNTS = {
            1, 2, 2, 2, 2, 2, 2, 3, 2, 2, 2, 2, 2, 2, 3, 3, 4, 4, 3, 3, 4,
            2, 3, 3
        };

        /** What each rule gives. */
        static final int[] GIVEN = {
            Y, SAME, X,
            X, SAME, Z,
            Y, P, Z,
            Z, P, Y,
            X, TYPE, C,
            Y, TYPE, C,
            Y, P, X,
            X, P, Z,
            Y, Q, X,
            Y, P, X,
            X, Q, Y,
            P, UNDER, R,
            X, TYPE, D,
            C, BELOW, E,
            Y, SAME, Z,
            X, SAME, Y,
            X, TYPE, C,
            Y, TYPE, D,
            X, P, V,
            X, TYPE, C,
            X, P, Z
        };

        /** The premises of each row; zeros fill a row that has fewer than four. */
        static final int[] PREMISES = {
            X, SAME, Y, 0, 0, 0, 0, 0, 0, 0, 0, 0,
            X, SAME, Y, Y, SAME, Z, 0, 0, 0, 0, 0, 0,
            X, SAME, Y, X, P, Z, 0, 0, 0, 0, 0, 0,
            X, SAME, Y, Z, P, X, 0, 0, 0, 0, 0, 0,
            P, FROM, C, X, P, Y, 0, 0, 0, 0, 0, 0,
            P, TO, C, X, P, Y, 0, 0, 0, 0, 0, 0,
            P, TYPE, BOTH, X, P, Y, 0, 0, 0, 0, 0, 0,
            P, TYPE, FAR, X, P, Y, Y, P, Z, 0, 0, 0,
            P, TURNED, Q, X, P, Y, 0, 0, 0, 0, 0, 0,
            P, TURNED, Q, X, Q, Y, 0, 0, 0, 0, 0, 0,
            P, UNDER, Q, X, P, Y, 0, 0, 0, 0, 0, 0,
            P, UNDER, Q, Q, UNDER, R, 0, 0, 0, 0, 0, 0,
            C, BELOW, D, X, TYPE, C, 0, 0, 0, 0, 0, 0,
            C, BELOW, D, D, BELOW, E, 0, 0, 0, 0, 0, 0,
            P, TYPE, ONE, X, P, Y, X, P, Z, 0, 0, 0,
            P, TYPE, ONCE, X, P, Z, Y, P, Z, 0, 0, 0,
            C, SOME, D, C, BY, P, X, P, Y, Y, TYPE, D,
            C, ALL, D, C, BY, P, X, TYPE, C, X, P, Y,
            C, HAS, V, C, BY, P, X, TYPE, C, 0, 0, 0,
            C, HAS, V, C, BY, P, X, P, V, 0, 0, 0,
            P, FIRST, Q, P, THEN, R, X, Q, Y, Y, R, Z,
            X, SAME, Y, X, OTHER, Y, 0, 0, 0, 0, 0, 0,
            C, APART, D, X, TYPE, C, X, TYPE, D, 0, 0, 0,
            P, NEVER, Q, X, P, Y, X, Q, Y, 0, 0, 0
        };

        static int premiseCount(int row) {
            return row >= 0 && row < COUNTS.length ? COUNTS[row] : 0;
        }

        /** Where the three slots of a premise stand in PREMISES. */
        static int premiseAt(int row, int premise) {
            return ROW * row + SLOTS * premise;
        }

        /** Where the three slots of what a rule gives stand in GIVEN. */
        static int givenAt(int row) {
            return SLOTS * row;
        }

        /** What a rule gives; each letter of it stands in a premise, so none is free here. */
        static int givenCode(int row, long letters) {
            int at = givenAt(row);
            return codeOf(
                    Letters.termOf(GIVEN[at], letters),
                    Letters.termOf(GIVEN[at + 1], letters),
                    Letters.termOf(GIVEN[at + 2], letters));
        }
    }

    /**
     * The terms that letters stand for, packed in a long: six bits a letter, 0 while it is free and
     * its term + 1 after. As a plain value it needs no undoing when a join goes back.
     */
    private static final class Letters {
        static final long FREE = 0L;
        static final long MISS = -1L;
        private static final int BITS = 6;
        private static final long MASK = 63L;

        /** The term of a slot, or NONE if it is a free letter. */
        static int termOf(int slot, long letters) {
            if (slot < TERMS) {
                return slot;
            }
            return (int) (letters >>> BITS * (slot - TERMS) & MASK) - 1;
        }

        private static long bind(int slot, int term, long letters) {
            int known = termOf(slot, letters);
            if (known == NONE) {
                return letters | (long) (term + 1) << BITS * (slot - TERMS);
            }
            return known == term ? letters : MISS;
        }

        /**
         * Letters such that the pattern of three slots at a place becomes a triple, or MISS. The
         * middle slot goes first because it refuses most triples at once.
         */
        static long fit(int[] slots, int at, int code, long letters) {
            if (at < 0 || at + 2 >= slots.length) {
                return MISS;
            }
            long bound = bind(slots[at + 1], code / TERMS % TERMS, letters);
            if (bound != MISS) {
                bound = bind(slots[at], code / TERMS / TERMS, bound);
            }
            if (bound != MISS) {
                bound = bind(slots[at + 2], code % TERMS, bound);
            }
            return bound;
        }
    }

    /** A set of triples that can be gone through by codes, whichever of their terms are known. */
    private static final class Triples {
        /** By 32 s + p: the set of o. */
        private final int[] objects;
        /** By p: the set of s. */
        private final int[] subjects;
        /** By s: the set of p. */
        private final int[] predicates;
        private int allSubjects;

        Triples() {
            objects = new int[TERMS * TERMS];
            subjects = new int[TERMS];
            predicates = new int[TERMS];
            allSubjects = 0;
        }

        void clear() {
            Arrays.fill(objects, 0);
            Arrays.fill(subjects, 0);
            Arrays.fill(predicates, 0);
            allSubjects = 0;
        }

        void put(int code) {
            if (code < 0 || code >= CODES) {
                return;
            }
            int s = code / TERMS / TERMS;
            int p = code / TERMS % TERMS;
            objects[code / TERMS] |= 1 << code % TERMS;
            subjects[p] |= 1 << s;
            predicates[s] |= 1 << p;
            allSubjects |= 1 << s;
        }

        boolean has(int code) {
            return code >= 0 && code < CODES && (objects[code / TERMS] & 1 << code % TERMS) != 0;
        }

        /** The set of s that a triple may have, with s and p known or NONE. */
        int subjectsFor(int s, int p) {
            if (isTerm(s)) {
                return 1 << s;
            }
            return isTerm(p) ? subjects[p] : allSubjects;
        }

        /** The set of p that a triple of s may have, with p known or NONE. */
        int predicatesFor(int s, int p) {
            if (isTerm(p)) {
                return 1 << p;
            }
            return isTerm(s) ? predicates[s] : 0;
        }

        /** The set of o that triples of s and p have, with o known or NONE. */
        int objectsFor(int s, int p, int o) {
            if (!isTerm(s) || !isTerm(p)) {
                return 0;
            }
            int all = objects[s * TERMS + p];
            return isTerm(o) ? all & 1 << o : all;
        }

        /** The i-th code, or NO. */
        int codeAt(int i) {
            int left = i;
            for (int at = 0; at < TERMS * TERMS; at++) {
                int here = Integer.bitCount(objects[at]);
                if (left < here) {
                    return at * TERMS + elementAt(objects[at], left);
                }
                left -= here;
            }
            return NO;
        }

        private static int elementAt(int set, int i) {
            int rest = set;
            for (int passed = 0; passed < i; passed++) {
                rest = withoutLeast(rest);
            }
            return leastOf(rest);
        }
    }

    /** Goes through the instances of a row of the table whose premises are all held. */
    private abstract static class Matcher {
        final Triples held;
        /** The codes of the premises of the instance that is met. */
        final int[] chosen;

        Matcher(Triples held) {
            this.held = held;
            this.chosen = new int[MOST_PREMISES];
        }

        /** Takes one instance; true when no more are wanted. */
        abstract boolean meet(int row, long letters);

        /**
         * Meets the instances by the codes of their premises, from a premise on; the one that is
         * fixed (or NONE) has been fitted before. True when no more are wanted.
         */
        private static boolean join(Matcher by, int row, int premise, int fixed, long letters) {
            if (premise >= Table.premiseCount(row) || premise >= MOST_PREMISES) {
                return by.meet(row, letters);
            }
            if (premise == fixed) {
                return join(by, row, premise + 1, fixed, letters);
            }
            int at = Table.premiseAt(row, premise);
            int knownS = Letters.termOf(Table.PREMISES[at], letters);
            int knownP = Letters.termOf(Table.PREMISES[at + 1], letters);
            int knownO = Letters.termOf(Table.PREMISES[at + 2], letters);
            int setS = by.held.subjectsFor(knownS, knownP);
            for (int leftS = Integer.bitCount(setS); leftS > 0; leftS--) {
                int s = leastOf(setS);
                setS = withoutLeast(setS);
                int setP = by.held.predicatesFor(s, knownP);
                for (int leftP = Integer.bitCount(setP); leftP > 0; leftP--) {
                    int p = leastOf(setP);
                    setP = withoutLeast(setP);
                    int setO = by.held.objectsFor(s, p, knownO);
                    for (int leftO = Integer.bitCount(setO); leftO > 0; leftO--) {
                        int code = codeOf(s, p, leastOf(setO));
                        setO = withoutLeast(setO);
                        by.chosen[premise] = code;
                        long bound = Letters.fit(Table.PREMISES, at, code, letters);
                        if (bound != Letters.MISS && join(by, row, premise + 1, fixed, bound)) {
                            return true;
                        }
                    }
                }
            }
            return false;
        }
    }

    /** Derives what holds, round by round. */
    private static final class Deriver extends Matcher {
        /** What has come, with what the round under way brings; held has only the rounds before. */
        private final Triples come;
        /** The codes in the order of their coming, so that each round is a stretch of the row. */
        private final int[] codes;
        private final int[] rounds;
        private int nowRound;
        private int count;
        private boolean large;

        Deriver(Triples held) {
            super(held);
            come = new Triples();
            codes = new int[MOST_HELD];
            rounds = new int[MOST_HELD];
            nowRound = 0;
            count = 0;
            large = false;
        }

        void derive(int[] start, int startCount, int rulesOn) {
            held.clear();
            come.clear();
            count = 0;
            large = false;
            nowRound = 0;
            for (int i = 0; i < startCount && i < start.length; i++) {
                add(start[i]);
            }
            int from = 0;
            // Each round brings a triple at least, so there are no more rounds than triples.
            for (int r = 1; r <= MOST_HELD && from < count && !large; r++) {
                nowRound = r;
                int to = count;
                for (int i = from; i < to; i++) {
                    held.put(codes[i]);
                }
                int rules = rulesOn & rulesInReach();
                for (int i = from; i < to && !large; i++) {
                    applyRules(codes[i], rules);
                }
                from = to;
            }
        }

        /**
         * The first premise of every rule names its predicate, so most rules can be left out of a
         * round at once.
         */
        private int rulesInReach() {
            int rules = 0;
            for (int row = 0; row < RULES; row++) {
                int p = Table.PREMISES[Table.premiseAt(row, 0) + 1];
                if (held.subjectsFor(NONE, p) != 0) {
                    rules |= 1 << row;
                }
            }
            return rules;
        }

        /**
         * An instance gives something new only in the round after its last premise has come, so it
         * is enough to look at those with a premise of the round before.
         */
        private void applyRules(int code, int rules) {
            for (int row = 0; row < RULES; row++) {
                int premises = contains(rules, row) ? Table.premiseCount(row) : 0;
                for (int fixed = 0; fixed < premises; fixed++) {
                    int at = Table.premiseAt(row, fixed);
                    long letters = Letters.fit(Table.PREMISES, at, code, Letters.FREE);
                    if (letters != Letters.MISS && Matcher.join(this, row, 0, fixed, letters)) {
                        return;
                    }
                }
            }
        }

        boolean meet(int row, long letters) {
            if (row >= 0 && row < RULES) {
                add(Table.givenCode(row, letters));
            }
            return large;
        }

        private void add(int code) {
            if (come.has(code)) {
                return;
            }
            if (count >= MOST_HELD) {
                large = true;
                return;
            }
            come.put(code);
            codes[count] = code;
            rounds[count] = nowRound;
            count++;
        }

        int lastRound() {
            return count > 0 && count <= MOST_HELD ? rounds[count - 1] : 0;
        }

        /** The round of a code, or NO. */
        int roundOf(int code) {
            for (int i = 0; i < count; i++) {
                if (codes[i] == code) {
                    return rounds[i];
                }
            }
            return NO;
        }
    }

    /** Counts ways and clashes in their order, and stops at one that is wanted. */
    private static final class Seeker extends Matcher {
        private int wanted;
        private int met;
        private int foundRow;

        Seeker(Triples held) {
            super(held);
            wanted = NONE;
            met = 0;
            foundRow = 0;
        }

        int countWays(int code, int rulesOn) {
            seekWay(code, rulesOn, NONE);
            return met;
        }

        boolean seekWay(int code, int rulesOn, int index) {
            wanted = index;
            met = 0;
            for (int row = 0; row < RULES; row++) {
                if (!contains(rulesOn, row)) {
                    continue;
                }
                long letters = Letters.fit(Table.GIVEN, Table.givenAt(row), code, Letters.FREE);
                if (letters != Letters.MISS && Matcher.join(this, row, 0, NONE, letters)) {
                    return true;
                }
            }
            return false;
        }

        int countClashes() {
            seekClash(NONE);
            return met;
        }

        boolean seekClash(int index) {
            wanted = index;
            met = 0;
            for (int kind = 0; kind < CLASH_KINDS; kind++) {
                if (Matcher.join(this, RULES + kind, 0, NONE, Letters.FREE)) {
                    return true;
                }
            }
            return false;
        }

        boolean meet(int row, long letters) {
            boolean found = met == wanted;
            if (found) {
                foundRow = row;
            }
            met++;
            return found;
        }

        /** The code of a premise of what was found, counted from 1, or NO. */
        int foundPremise(int number) {
            if (number < 1 || number > Table.premiseCount(foundRow) || number > MOST_PREMISES) {
                return NO;
            }
            return chosen[number - 1];
        }
    }
}

/** For each promise of the document: ordinary inputs, the edges that it names, and wrong inputs. */
public final class PromisesTest {
    private static final int TYPE = 0;
    private static final int BELOW = 1;
    private static final int UNDER = 2;
    private static final int FROM = 3;
    private static final int TO = 4;
    private static final int TURNED = 5;
    private static final int SAME = 6;
    private static final int OTHER = 7;
    private static final int APART = 8;
    private static final int BY = 9;
    private static final int SOME = 10;
    private static final int ALL = 11;
    private static final int HAS = 12;
    private static final int FIRST = 13;
    private static final int THEN = 14;
    private static final int FAR = 15;
    private static final int BOTH = 16;
    private static final int ONE = 17;
    private static final int ONCE = 18;
    private static final int NEVER = 19;
    private static final int[] NO_TERMS = {-1, 32, Integer.MIN_VALUE, Integer.MAX_VALUE};

    private static int wrong = 0;

    public static void main(String[] args) {
        promise1NewObject();
        promise2Say();
        promise3Unsay();
        promise4Rule();
        promise5Run();
        promise5EachRuleGives();
        promise6Size();
        promise7Triple();
        promise8Round();
        promise9Ways();
        promise10Way();
        promise11Clashes();
        promise11EachTermCounts();
        promise12Clash();
        promise13Group();
        promise14Said();
        tooLargeEverywhere();
        objectsAreApart();
        System.out.println(wrong == 0 ? "all answers are as due" : wrong + " answers are not as due");
        if (wrong != 0) {
            System.exit(1);
        }
    }

    private static void due(String what, int got, int want) {
        if (got != want) {
            wrong++;
            System.out.println(what + " answered " + got + ", due is " + want);
        }
    }

    private static int code(int s, int p, int o) {
        return 1024 * s + 32 * p + o;
    }

    private static RlRounds saying(int... terms) {
        RlRounds x = new RlRounds();
        for (int i = 0; i + 2 < terms.length; i += 3) {
            due("say while a test is set up", x.say(terms[i], terms[i + 1], terms[i + 2]), 1);
        }
        return x;
    }

    /** A clique of 19 that are the same (361 triples) and as many triples more as are asked for. */
    private static RlRounds cliqueAnd(int more) {
        RlRounds x = new RlRounds();
        for (int term = 13; term < 31; term++) {
            x.say(term, SAME, term + 1);
        }
        addPlain(x, more);
        return x;
    }

    /** Triples from which nothing follows. */
    private static void addPlain(RlRounds x, int more) {
        for (int i = 0; i < more; i++) {
            due("say a plain triple", x.say(i / 13, 31, i % 13), 1);
        }
    }

    private static RlRounds large() {
        return cliqueAnd(40);
    }

    private static void promise1NewObject() {
        RlRounds x = new RlRounds();
        due("1: said()", x.said(), 0);
        due("1: size()", x.size(), 0);
        due("1: run()", x.run(), 0);
        due("1: clashes()", x.clashes(), 0);
        for (int rule = 0; rule < 21; rule++) {
            due("1: rule " + rule + " is on", new RlRounds().rule(rule, true), 0);
        }
        for (int term = 0; term < 32; term++) {
            due("1: group(" + term + ")", x.group(term), term);
        }
    }

    private static void promise2Say() {
        RlRounds x = new RlRounds();
        due("2: first say", x.say(0, 0, 0), 1);
        due("2: again", x.say(0, 0, 0), 0);
        due("2: greatest terms", x.say(31, 31, 31), 1);
        due("2: other order of terms", x.say(20, 21, 22), 1);
        due("2: other order of terms", x.say(22, 21, 20), 1);
        for (int bad : NO_TERMS) {
            due("2: s " + bad, x.say(bad, 0, 0), RlRounds.BAD);
            due("2: p " + bad, x.say(0, bad, 0), RlRounds.BAD);
            due("2: o " + bad, x.say(0, 0, bad), RlRounds.BAD);
        }
        due("2: said after BAD", x.said(), 4);
        RlRounds derived = saying(20, 21, 22, 21, TYPE, BOTH);
        due("2: it holds", derived.round(22, 21, 20), 1);
        due("2: a triple that holds but is not SAID", derived.say(22, 21, 20), 1);
        due("2: now SAID, it is of round 0", derived.round(22, 21, 20), 0);

        RlRounds full = new RlRounds();
        addPlain(full, 119);
        due("2: the 120th", full.say(30, 31, 30), 1);
        due("2: the 121st", full.say(30, 31, 29), RlRounds.FULL);
        due("2: one that was SAID, when full", full.say(30, 31, 30), 0);
        due("2: BAD, when full", full.say(32, 31, 30), RlRounds.BAD);
        due("2: said when full", full.said(), 120);
        due("2: unsay when full", full.unsay(0, 31, 0), 1);
        due("2: say after unsay", full.say(30, 31, 29), 1);
        due("2: full again", full.say(0, 31, 0), RlRounds.FULL);
    }

    private static void promise3Unsay() {
        RlRounds x = saying(20, 21, 22, 23, 24, 25, 26, 27, 28);
        due("3: not SAID", x.unsay(22, 21, 20), 0);
        due("3: the first of three", x.unsay(20, 21, 22), 1);
        due("3: again", x.unsay(20, 21, 22), 0);
        due("3: size()", x.size(), 2);
        due("3: the second stays", x.round(23, 24, 25), 0);
        due("3: the third stays", x.round(26, 27, 28), 0);
        due("3: the last", x.unsay(26, 27, 28), 1);
        due("3: the rest", x.unsay(23, 24, 25), 1);
        due("3: size()", x.size(), 0);
        due("3: none is left", x.unsay(23, 24, 25), 0);
        for (int bad : NO_TERMS) {
            due("3: s " + bad, x.unsay(bad, 0, 0), RlRounds.BAD);
            due("3: p " + bad, x.unsay(0, bad, 0), RlRounds.BAD);
            due("3: o " + bad, x.unsay(0, 0, bad), RlRounds.BAD);
        }
        RlRounds derived = saying(20, 21, 22, 21, TYPE, BOTH);
        due("3: it holds but is not SAID", derived.unsay(22, 21, 20), 0);
        due("3: it still holds", derived.round(22, 21, 20), 1);
        due("3: both ways", derived.say(22, 21, 20), 1);
        due("3: what was SAID", derived.unsay(20, 21, 22), 1);
        due("3: it follows now", derived.round(20, 21, 22), 1);
    }

    private static void promise4Rule() {
        RlRounds x = new RlRounds();
        for (int rule = 0; rule < 21; rule++) {
            due("4: on, when on", x.rule(rule, true), 0);
            due("4: off", x.rule(rule, false), 1);
            due("4: off again", x.rule(rule, false), 0);
        }
        for (int rule = 0; rule < 21; rule++) {
            due("4: on", x.rule(rule, true), 1);
        }
        int[] none = {-1, 21, 31, 32, Integer.MIN_VALUE, Integer.MAX_VALUE};
        for (int rule : none) {
            due("4: rule " + rule, x.rule(rule, true), RlRounds.BAD);
            due("4: rule " + rule, x.rule(rule, false), RlRounds.BAD);
        }
        RlRounds same = saying(20, SAME, 21);
        due("4: both directions and the loops", same.size(), 4);
        due("4: 0 off", same.rule(0, false), 1);
        due("4: rule 2 gives a loop, but nothing turns round", same.size(), 2);
        due("4: 2 off", same.rule(2, false), 1);
        due("4: 3 off", same.rule(3, false), 1);
        due("4: nothing follows", same.size(), 1);
        due("4: 0 on", same.rule(0, true), 1);
        due("4: rules 0 and 1", same.size(), 4);
    }

    private static void promise5Run() {
        RlRounds x = saying(20, BELOW, 21, 21, BELOW, 22, 22, BELOW, 23, 23, BELOW, 24, 30, TYPE, 20);
        due("5: with rule 13", x.run(), 3);
        x.rule(13, false);
        due("5: a step a round", x.run(), 4);
        x.rule(12, false);
        due("5: nothing comes", x.run(), 0);
        due("5: LARGE", large().run(), RlRounds.LARGE);
        due("5: not LARGE with 400", cliqueAnd(39).run(), 5);

        RlRounds chain = new RlRounds();
        for (int rule = 0; rule < 21; rule++) {
            chain.rule(rule, rule == 12);
        }
        for (int term = 1; term < 31; term++) {
            chain.say(term, BELOW, term + 1);
        }
        chain.say(0, TYPE, 1);
        due("5: thirty rounds", chain.run(), 30);
        due("5: asked again", chain.run(), 30);
    }

    /** The last triple follows by that rule alone from those before, and not with one of them less. */
    private static void promise5EachRuleGives() {
        givesJust(0, 20, SAME, 21, 21, SAME, 20);
        givesJust(1, 20, SAME, 21, 21, SAME, 22, 20, SAME, 22);
        givesJust(2, 20, SAME, 21, 20, 30, 22, 21, 30, 22);
        givesJust(3, 20, SAME, 21, 22, 30, 20, 22, 30, 21);
        givesJust(4, 30, FROM, 25, 20, 30, 21, 20, TYPE, 25);
        givesJust(5, 30, TO, 25, 20, 30, 21, 21, TYPE, 25);
        givesJust(6, 30, TYPE, BOTH, 20, 30, 21, 21, 30, 20);
        givesJust(7, 30, TYPE, FAR, 20, 30, 21, 21, 30, 22, 20, 30, 22);
        givesJust(8, 30, TURNED, 31, 20, 30, 21, 21, 31, 20);
        givesJust(9, 30, TURNED, 31, 20, 31, 21, 21, 30, 20);
        givesJust(10, 30, UNDER, 31, 20, 30, 21, 20, 31, 21);
        givesJust(11, 29, UNDER, 30, 30, UNDER, 31, 29, UNDER, 31);
        givesJust(12, 25, BELOW, 26, 20, TYPE, 25, 20, TYPE, 26);
        givesJust(13, 25, BELOW, 26, 26, BELOW, 27, 25, BELOW, 27);
        givesJust(14, 30, TYPE, ONE, 20, 30, 21, 20, 30, 22, 21, SAME, 22);
        givesJust(15, 30, TYPE, ONCE, 20, 30, 22, 21, 30, 22, 20, SAME, 21);
        givesJust(16, 25, SOME, 26, 25, BY, 30, 20, 30, 21, 21, TYPE, 26, 20, TYPE, 25);
        givesJust(17, 25, ALL, 26, 25, BY, 30, 20, TYPE, 25, 20, 30, 21, 21, TYPE, 26);
        givesJust(18, 25, HAS, 22, 25, BY, 30, 20, TYPE, 25, 20, 30, 22);
        givesJust(19, 25, HAS, 22, 25, BY, 30, 20, 30, 22, 20, TYPE, 25);
        givesJust(20, 29, FIRST, 30, 29, THEN, 31, 20, 30, 21, 21, 31, 22, 20, 29, 22);
        givesJust(20, 29, FIRST, 30, 29, THEN, 30, 20, 30, 21, 21, 30, 22, 20, 29, 22);
        // Letters stand for terms with a meaning too.
        gives(6, TYPE, TYPE, BOTH, 20, TYPE, 21, 21, TYPE, 20);
        gives(10, UNDER, UNDER, BELOW, 20, UNDER, 21, 20, BELOW, 21);
    }

    private static void gives(int rule, int... terms) {
        int premises = terms.length / 3 - 1;
        String name = "rule " + rule;
        RlRounds x = onlyRule(rule, terms);
        due("5: " + name, goalRound(x, terms), 1);
        due("9: ways of " + name, x.ways(goal(terms, 0), goal(terms, 1), goal(terms, 2)) > 0 ? 1 : 0, 1);
        due("10: " + name, goalWay(x, terms, 0, 0), rule);
        due("10: " + name + " has its premises in their order", hasWay(x, premises, terms) ? 1 : 0, 1);
        for (int k = premises + 1; k <= 4; k++) {
            due("10: " + name + " has no premise " + k, goalWay(x, terms, 0, k), RlRounds.NO);
        }
        x.rule(rule, false);
        due("5: " + name + " off", goalRound(x, terms), RlRounds.NO);
        due("9: no way by " + name + " off", x.ways(goal(terms, 0), goal(terms, 1), goal(terms, 2)), 0);
        for (int left = 0; left < premises; left++) {
            RlRounds less = onlyRule(rule, terms);
            less.unsay(terms[3 * left], terms[3 * left + 1], terms[3 * left + 2]);
            due("5: " + name + " without premise " + left, goalRound(less, terms), RlRounds.NO);
        }
    }

    /** As gives, and it does not follow when a term is another one, unless that letter is alone. */
    private static void givesJust(int rule, int... terms) {
        gives(rule, terms);
        for (int at = 0; at < terms.length - 3; at++) {
            int[] other = terms.clone();
            other[at] = 28;
            boolean alone = terms[at] >= 20 && times(terms[at], terms) == 1;
            due("5: rule " + rule + " with another term at " + at,
                    goalRound(onlyRule(rule, other), other), alone ? 1 : RlRounds.NO);
        }
    }

    private static int times(int term, int[] terms) {
        int times = 0;
        for (int each : terms) {
            times += each == term ? 1 : 0;
        }
        return times;
    }

    private static int goal(int[] terms, int part) {
        return terms[terms.length - 3 + part];
    }

    private static int goalRound(RlRounds x, int[] terms) {
        return x.round(goal(terms, 0), goal(terms, 1), goal(terms, 2));
    }

    private static int goalWay(RlRounds x, int[] terms, int i, int what) {
        return x.way(goal(terms, 0), goal(terms, 1), goal(terms, 2), i, what);
    }

    private static boolean hasWay(RlRounds x, int premises, int[] terms) {
        int ways = x.ways(goal(terms, 0), goal(terms, 1), goal(terms, 2));
        for (int i = 0; i < ways; i++) {
            boolean all = true;
            for (int k = 0; k < premises; k++) {
                int premise = code(terms[3 * k], terms[3 * k + 1], terms[3 * k + 2]);
                all &= goalWay(x, terms, i, k + 1) == premise;
            }
            if (all) {
                return true;
            }
        }
        return false;
    }

    /** All but the last triple is SAID, and no rule but one is on. */
    private static RlRounds onlyRule(int rule, int[] terms) {
        RlRounds x = new RlRounds();
        for (int other = 0; other < 21; other++) {
            x.rule(other, other == rule);
        }
        for (int at = 0; at < terms.length - 3; at += 3) {
            x.say(terms[at], terms[at + 1], terms[at + 2]);
        }
        return x;
    }

    private static void promise6Size() {
        due("6: what is SAID and what follows", saying(20, 21, 22, 21, TYPE, BOTH).size(), 3);
        due("6: 361 of a clique", cliqueAnd(0).size(), 361);
        due("6: 400 is not too large", cliqueAnd(39).size(), 400);
        due("6: 401 is", cliqueAnd(40).size(), RlRounds.LARGE);
        RlRounds x = cliqueAnd(40);
        due("6: LARGE", x.size(), RlRounds.LARGE);
        due("6: one less", x.unsay(0, 31, 0), 1);
        due("6: not LARGE any more", x.size(), 400);
        due("6: one more, that follows already", x.say(13, SAME, 31), 1);
        due("6: still 400", x.size(), 400);
        RlRounds full = new RlRounds();
        addPlain(full, 120);
        due("6: 120 SAID", full.size(), 120);
    }

    private static void promise7Triple() {
        RlRounds x = saying(31, 31, 31, 20, 21, 22, 0, 1, 2, 21, TYPE, BOTH, 20, 21, 2);
        int[] want = {
            code(0, 1, 2), code(2, 21, 20), code(20, 21, 2), code(20, 21, 22), code(21, TYPE, BOTH),
            code(22, 21, 20), code(31, 31, 31)
        };
        for (int i = 0; i < want.length; i++) {
            due("7: triple(" + i + ")", x.triple(i), want[i]);
        }
        due("7: one too many", x.triple(want.length), RlRounds.NO);
        due("7: below", x.triple(-1), RlRounds.NO);
        due("7: far below", x.triple(Integer.MIN_VALUE), RlRounds.NO);
        due("7: far above", x.triple(Integer.MAX_VALUE), RlRounds.NO);
        due("7: the last of 400", cliqueAnd(39).triple(399), code(31, SAME, 31));
        due("7: behind 400", cliqueAnd(39).triple(400), RlRounds.NO);
        RlRounds dense = new RlRounds();
        for (int o = 31; o >= 0; o--) {
            dense.say(25, 26, o);
        }
        for (int o = 0; o < 32; o++) {
            due("7: all o", dense.triple(o), code(25, 26, o));
        }
    }

    private static void promise8Round() {
        RlRounds x = saying(20, BELOW, 21, 21, BELOW, 22, 30, TYPE, 20);
        due("8: SAID", x.round(20, BELOW, 21), 0);
        due("8: round 1", x.round(20, BELOW, 22), 1);
        due("8: round 1", x.round(30, TYPE, 21), 1);
        due("8: round 2", x.round(30, TYPE, 22), 2);
        due("8: does not hold", x.round(30, TYPE, 23), RlRounds.NO);
        for (int bad : NO_TERMS) {
            due("8: s " + bad, x.round(bad, 0, 0), RlRounds.BAD);
            due("8: p " + bad, x.round(0, bad, 0), RlRounds.BAD);
            due("8: o " + bad, x.round(0, 0, bad), RlRounds.BAD);
        }
        // A round sees only rounds before: what comes first in it is no premise for the rest of it.
        RlRounds order = saying(20, 21, 22, 21, UNDER, 23, 23, UNDER, 24, 24, UNDER, 25);
        order.rule(11, false);
        due("8: one step", order.round(20, 23, 22), 1);
        due("8: two steps", order.round(20, 24, 22), 2);
        due("8: three steps", order.round(20, 25, 22), 3);
        // What is the same comes after the triple that it takes over.
        RlRounds late = saying(30, TYPE, ONE, 20, 30, 21, 20, 30, 22, 24, 25, 21);
        due("8: SAME comes first", late.round(21, SAME, 22), 1);
        due("8: and then what it takes over", late.round(24, 25, 22), 2);
    }

    private static void promise9Ways() {
        RlRounds x = saying(20, BELOW, 21, 21, BELOW, 22, 30, TYPE, 20);
        due("9: SAID alone", x.ways(20, BELOW, 21), 0);
        due("9: one", x.ways(20, BELOW, 22), 1);
        due("9: two, one with a premise of its own round's", x.ways(30, TYPE, 22), 2);
        due("9: does not hold", x.ways(30, TYPE, 23), 0);
        RlRounds loop = saying(20, SAME, 20);
        due("9: a triple is a way to itself", loop.ways(20, SAME, 20), 4);
        due("9: nothing new", loop.size(), 1);
        due("9: round of what was SAID", loop.round(20, SAME, 20), 0);
        for (int bad : NO_TERMS) {
            due("9: s " + bad, x.ways(bad, 0, 0), RlRounds.BAD);
            due("9: p " + bad, x.ways(0, bad, 0), RlRounds.BAD);
            due("9: o " + bad, x.ways(0, 0, bad), RlRounds.BAD);
        }
        due("9: in a clique of 19", cliqueAnd(39).ways(13, SAME, 31), 1 + 3 * 19);
    }

    private static void promise10Way() {
        RlRounds x = saying(21, TYPE, FAR, 21, TYPE, BOTH, 20, 21, 22);
        int[][] want = {
            {6, code(21, TYPE, BOTH), code(20, 21, 20), RlRounds.NO, RlRounds.NO},
            {7, code(21, TYPE, FAR), code(20, 21, 20), code(20, 21, 20), RlRounds.NO},
            {7, code(21, TYPE, FAR), code(20, 21, 22), code(22, 21, 20), RlRounds.NO}
        };
        for (int i = 0; i < want.length; i++) {
            for (int what = 0; what <= 4; what++) {
                due("10: way " + i + ", " + what, x.way(20, 21, 20, i, what), want[i][what]);
            }
        }
        due("10: one too many", x.way(20, 21, 20, 3, 0), RlRounds.NO);
        due("10: i below", x.way(20, 21, 20, -1, 0), RlRounds.NO);
        due("10: i far below", x.way(20, 21, 20, Integer.MIN_VALUE, 1), RlRounds.NO);
        due("10: i far above", x.way(20, 21, 20, Integer.MAX_VALUE, 1), RlRounds.NO);
        due("10: does not hold", x.way(20, 21, 23, 0, 0), RlRounds.NO);
        due("10: what 5", x.way(20, 21, 20, 0, 5), RlRounds.BAD);
        due("10: what -1", x.way(20, 21, 20, 0, -1), RlRounds.BAD);
        due("10: what is none before not so many", x.way(20, 21, 20, 9, 5), RlRounds.BAD);
        for (int bad : NO_TERMS) {
            due("10: s " + bad, x.way(bad, 21, 20, 0, 0), RlRounds.BAD);
            due("10: p " + bad, x.way(20, bad, 20, 0, 0), RlRounds.BAD);
            due("10: o " + bad, x.way(20, 21, bad, 0, 0), RlRounds.BAD);
        }
        // Of one rule: by the first premises, whatever the order in which they were SAID.
        RlRounds order = saying(24, BELOW, 22, 23, BELOW, 22, 30, TYPE, 24, 30, TYPE, 23);
        due("10: lesser first premise", order.way(30, TYPE, 22, 0, 1), code(23, BELOW, 22));
        due("10: greater first premise", order.way(30, TYPE, 22, 1, 1), code(24, BELOW, 22));
        // By the second premises where the first ones are the same.
        RlRounds second = saying(25, FROM, 26, 20, 25, 30, 20, 25, 29);
        due("10: lesser second premise", second.way(20, TYPE, 26, 0, 2), code(20, 25, 29));
        due("10: greater second premise", second.way(20, TYPE, 26, 1, 2), code(20, 25, 30));
    }

    private static void promise11Clashes() {
        due("11: SAME and OTHER", saying(20, SAME, 20, 20, OTHER, 20).clashes(), 1);
        due("11: OTHER alone", saying(20, OTHER, 20).clashes(), 0);
        due("11: APART", saying(25, APART, 26, 20, TYPE, 25, 20, TYPE, 26).clashes(), 1);
        due("11: APART of one that is not both", saying(25, APART, 26, 20, TYPE, 25, 21, TYPE, 26).clashes(), 0);
        due("11: APART from itself", saying(25, APART, 25, 20, TYPE, 25).clashes(), 1);
        due("11: NEVER", saying(25, NEVER, 26, 20, 25, 21, 20, 26, 21).clashes(), 1);
        due("11: NEVER of another o", saying(25, NEVER, 26, 20, 25, 21, 20, 26, 22).clashes(), 0);
        RlRounds both = saying(25, APART, 26, 26, APART, 25, 20, TYPE, 25, 20, TYPE, 26);
        due("11: APART said twice", both.clashes(), 2);
        both.unsay(25, APART, 26);
        due("11: once", both.clashes(), 1);
        RlRounds follows = saying(25, APART, 26, 20, TYPE, 25, 25, BELOW, 26);
        due("11: of what follows", follows.clashes(), 1);
        follows.rule(12, false);
        due("11: it follows no more", follows.clashes(), 0);
    }

    /** Each term counts: with another one instead there is no clash. */
    private static void promise11EachTermCounts() {
        int[][] kinds = {
            {20, SAME, 21, 20, OTHER, 21},
            {25, APART, 26, 20, TYPE, 25, 20, TYPE, 26},
            {25, NEVER, 26, 20, 25, 21, 20, 26, 21}
        };
        for (int kind = 0; kind < kinds.length; kind++) {
            due("11: kind " + kind, saidWithoutRules(kinds[kind]).clashes(), 1);
            due("12: kind " + kind, saidWithoutRules(kinds[kind]).clash(0, 0), kind);
            for (int at = 0; at < kinds[kind].length; at++) {
                int[] other = kinds[kind].clone();
                other[at] = 28;
                due("11: kind " + kind + " with another term at " + at, saidWithoutRules(other).clashes(), 0);
            }
        }
    }

    private static RlRounds saidWithoutRules(int[] terms) {
        RlRounds x = saying(terms);
        for (int rule = 0; rule < 21; rule++) {
            x.rule(rule, false);
        }
        return x;
    }

    private static void promise12Clash() {
        RlRounds x = saying(
                29, NEVER, 28, 20, 29, 21, 20, 28, 21,
                25, APART, 26, 23, TYPE, 25, 23, TYPE, 26, 22, TYPE, 25, 22, TYPE, 26,
                24, SAME, 24, 24, OTHER, 24);
        int[][] want = {
            {0, code(24, SAME, 24), code(24, OTHER, 24), RlRounds.NO},
            {1, code(25, APART, 26), code(22, TYPE, 25), code(22, TYPE, 26)},
            {1, code(25, APART, 26), code(23, TYPE, 25), code(23, TYPE, 26)},
            {2, code(29, NEVER, 28), code(20, 29, 21), code(20, 28, 21)}
        };
        due("12: how many", x.clashes(), want.length);
        for (int i = 0; i < want.length; i++) {
            for (int what = 0; what <= 3; what++) {
                due("12: clash " + i + ", " + what, x.clash(i, what), want[i][what]);
            }
        }
        due("12: one too many", x.clash(4, 0), RlRounds.NO);
        due("12: i below", x.clash(-1, 0), RlRounds.NO);
        due("12: i far below", x.clash(Integer.MIN_VALUE, 0), RlRounds.NO);
        due("12: i far above", x.clash(Integer.MAX_VALUE, 0), RlRounds.NO);
        due("12: what 4", x.clash(0, 4), RlRounds.BAD);
        due("12: what -1", x.clash(0, -1), RlRounds.BAD);
        due("12: what is none before not so many", x.clash(9, 4), RlRounds.BAD);
    }

    private static void promise13Group() {
        RlRounds x = saying(28, SAME, 24, 24, SAME, 30, 21, SAME, 22);
        due("13: of three", x.group(28), 24);
        due("13: of three", x.group(30), 24);
        due("13: the least itself", x.group(24), 24);
        due("13: of two", x.group(22), 21);
        due("13: alone", x.group(23), 23);
        due("13: term 0", x.group(0), 0);
        due("13: term 31", x.group(31), 31);
        for (int bad : NO_TERMS) {
            due("13: " + bad, x.group(bad), RlRounds.BAD);
        }
        RlRounds plain = saying(28, SAME, 24, 21, SAME, 28);
        for (int rule = 0; rule < 21; rule++) {
            plain.rule(rule, false);
        }
        due("13: what it is SAME as", plain.group(28), 24);
        due("13: not what is SAME as it", plain.group(24), 24);
        due("13: no lesser one", plain.group(21), 21);
        due("13: of 19", cliqueAnd(0).group(31), 13);
    }

    private static void promise14Said() {
        RlRounds x = saying(20, 21, 22, 21, TYPE, BOTH);
        due("14: two", x.said(), 2);
        due("14: of what follows", x.size(), 3);
        due("14: two still", x.said(), 2);
        x.say(20, 21, 22);
        due("14: said again", x.said(), 2);
        x.unsay(22, 21, 20);
        due("14: unsaid what was not", x.said(), 2);
        x.unsay(20, 21, 22);
        due("14: one", x.said(), 1);
        due("14: also when LARGE", large().said(), 58);
    }

    private static void tooLargeEverywhere() {
        RlRounds x = large();
        due("LARGE: run", x.run(), RlRounds.LARGE);
        due("LARGE: size", x.size(), RlRounds.LARGE);
        due("LARGE: triple", x.triple(0), RlRounds.LARGE);
        due("LARGE: triple(-1)", x.triple(-1), RlRounds.LARGE);
        due("LARGE: triple(1000)", x.triple(1000), RlRounds.LARGE);
        due("LARGE: round", x.round(13, SAME, 14), RlRounds.LARGE);
        due("LARGE: round of one that cannot hold", x.round(1, 2, 3), RlRounds.LARGE);
        due("LARGE: BAD goes before in round", x.round(32, 2, 3), RlRounds.BAD);
        due("LARGE: ways", x.ways(13, SAME, 14), RlRounds.LARGE);
        due("LARGE: BAD goes before in ways", x.ways(13, 32, 14), RlRounds.BAD);
        due("LARGE: way", x.way(13, SAME, 14, 0, 0), RlRounds.LARGE);
        due("LARGE: before NO in way", x.way(13, SAME, 14, -1, 0), RlRounds.LARGE);
        due("LARGE: BAD goes before in way", x.way(13, SAME, 32, 0, 0), RlRounds.BAD);
        due("LARGE: BAD goes before in way", x.way(13, SAME, 14, 0, 5), RlRounds.BAD);
        due("LARGE: clashes", x.clashes(), RlRounds.LARGE);
        due("LARGE: clash", x.clash(0, 0), RlRounds.LARGE);
        due("LARGE: before NO in clash", x.clash(-1, 0), RlRounds.LARGE);
        due("LARGE: BAD goes before in clash", x.clash(0, 4), RlRounds.BAD);
        due("LARGE: group", x.group(3), RlRounds.LARGE);
        due("LARGE: BAD goes before in group", x.group(32), RlRounds.BAD);
        due("LARGE: say", x.say(12, 30, 12), 1);
        due("LARGE: rule", x.rule(1, false), 1);
        for (int rule = 0; rule < 21; rule++) {
            x.rule(rule, false);
        }
        due("LARGE: all rules off", x.size(), 59);
        due("LARGE: all rules off", x.run(), 0);
    }

    private static void objectsAreApart() {
        RlRounds one = saying(20, 21, 22);
        RlRounds two = saying(21, TYPE, BOTH);
        due("two objects", one.size(), 1);
        due("two objects", two.size(), 1);
        two.rule(6, false);
        due("two objects", one.say(21, TYPE, BOTH), 1);
        due("two objects", one.size(), 3);
        due("two objects", two.say(20, 21, 22), 1);
        due("two objects", two.size(), 2);
    }
}

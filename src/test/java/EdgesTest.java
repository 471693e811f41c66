import java.lang.annotation.Retention;
import java.lang.annotation.RetentionPolicy;
import java.lang.reflect.InvocationTargetException;
import java.lang.reflect.Method;
import java.nio.file.Files;
import java.nio.file.Path;
import java.util.Map;
import java.util.TreeMap;
import java.util.function.IntUnaryOperator;

/**
 * One test for each boundary case that a sentence of the document names. The name of a test begins
 * with its promise (or with the heading, for what stands before the promises); the sentence stands
 * above it, word for word. The last check is that each quoted sentence stands in the document there
 * and that no word of a promise is without a test.
 */
public final class EdgesTest {
    private static final int BAD = RlRounds.BAD;
    private static final int NO = RlRounds.NO;
    private static final int FULL = RlRounds.FULL;
    private static final int LARGE = RlRounds.LARGE;

    private static final int TYPE = 0;
    private static final int BELOW = 1;
    private static final int UNDER = 2;
    private static final int FROM = 3;
    private static final int TO = 4;
    private static final int TURNED = 5;
    private static final int SAME = 6;
    private static final int OTHER = 7;
    private static final int APART = 8;
    private static final int BY = 9;
    private static final int SOME = 10;
    private static final int HAS = 12;
    private static final int FIRST = 13;
    private static final int THEN = 14;
    private static final int FAR = 15;
    private static final int BOTH = 16;
    private static final int ONE = 17;
    private static final int NEVER = 19;

    private static final int MIN = Integer.MIN_VALUE;
    private static final int MAX = Integer.MAX_VALUE;
    /** Too small, too large, and those that 32, 32 * 32, 32 * 1024 or an int's end wrap into 0 .. 31. */
    private static final int[] NO_TERMS = {
        -1, 32, -32, 33, 64, 1024, 1 << 22, 1 << 27, -(1 << 27), MIN, MIN + 1, MAX
    };

    private static int wrong = 0;

    /** The sentence that a test is for; promise 0 is what stands before the promises. */
    @Retention(RetentionPolicy.RUNTIME)
    private @interface Edge {
        int promise();

        String says();
    }

    public static void main(String[] args) throws Exception {
        Map<String, Method> tests = new TreeMap<>();
        for (Method method : EdgesTest.class.getDeclaredMethods()) {
            if (method.isAnnotationPresent(Edge.class)) {
                tests.put(method.getName(), method);
            }
        }
        int failed = 0;
        for (Method test : tests.values()) {
            failed += passes(test) ? 0 : 1;
        }
        failed += sentencesAreTheDocuments(tests) ? 0 : 1;
        System.out.println(tests.size() + " edges, " + failed + " not as due");
        if (failed != 0) {
            System.exit(1);
        }
    }

    private static boolean passes(Method test) throws IllegalAccessException {
        int before = wrong;
        try {
            test.invoke(null);
        } catch (InvocationTargetException e) {
            wrong++;
            System.out.println("  thrown: " + e.getCause());
        }
        if (wrong != before) {
            Edge edge = test.getAnnotation(Edge.class);
            System.out.println("FAILED " + test.getName() + ": \"" + edge.says() + "\"");
        }
        return wrong == before;
    }

    private static boolean sentencesAreTheDocuments(Map<String, Method> tests) throws java.io.IOException {
        String document = Files.readString(Path.of("../shared/DOC.md"));
        int before = wrong;
        for (int promise = 0; promise <= 14; promise++) {
            String text = promise == 0
                    ? between(document, "## What it is", "## Promise 1:")
                    : between(document, "## Promise " + promise + ":", "\n## ");
            String rest = text.substring(Math.max(0, text.indexOf("`: ")));
            for (Method test : tests.values()) {
                Edge edge = test.getAnnotation(Edge.class);
                if (edge.promise() == promise) {
                    due("\"" + edge.says() + "\" stands under promise " + promise, text.contains(edge.says()) ? 1 : 0, 1);
                    rest = rest.replace(edge.says(), "");
                }
            }
            if (promise > 0) {
                due("words of promise " + promise + " without a test, in \"" + rest.trim() + "\"",
                        rest.replaceAll("[^A-Za-z0-9]", "").length(), 0);
            }
        }
        return wrong == before;
    }

    private static String between(String text, String from, String to) {
        int start = text.indexOf(from);
        int end = start < 0 ? -1 : text.indexOf(to, start + from.length());
        return end < 0 ? "" : text.substring(start + from.length(), end);
    }

    private static void due(String what, int got, int want) {
        if (got != want) {
            wrong++;
            System.out.println("  " + what + ": " + got + ", due is " + want);
        }
    }

    private static void dueText(String what, String got, String want) {
        if (!got.equals(want)) {
            wrong++;
            System.out.println("  " + what + ": " + got + ", due is " + want);
        }
    }

    private static void badForNoTerm(String what, IntUnaryOperator call) {
        for (int none : NO_TERMS) {
            due(what + " with " + none, call.applyAsInt(none), BAD);
        }
    }

    private static void largeForEach(String what, IntUnaryOperator call, int... arguments) {
        for (int argument : arguments) {
            due(what + " with " + argument, call.applyAsInt(argument), LARGE);
        }
    }

    private static void noForEach(String what, IntUnaryOperator call, int... arguments) {
        for (int argument : arguments) {
            due(what + " with " + argument, call.applyAsInt(argument), NO);
        }
    }

    private static int code(int s, int p, int o) {
        return 1024 * s + 32 * p + o;
    }

    private static RlRounds saying(int... terms) {
        RlRounds x = new RlRounds();
        sayAll(x, terms);
        return x;
    }

    private static void sayAll(RlRounds x, int... terms) {
        for (int i = 0; i + 2 < terms.length; i += 3) {
            due("say while a test is set up", x.say(terms[i], terms[i + 1], terms[i + 2]), 1);
        }
    }

    private static RlRounds withRules(RlRounds x, int... rules) {
        for (int rule = 0; rule < 21; rule++) {
            boolean on = false;
            for (int each : rules) {
                on |= each == rule;
            }
            x.rule(rule, on);
        }
        return x;
    }

    /** Triples of terms 0 .. 12 from which nothing follows. */
    private static RlRounds plain(RlRounds x, int p, int count) {
        for (int i = 0; i < count; i++) {
            due("say a plain triple", x.say(i / 13, p, i % 13), 1);
        }
        return x;
    }

    private static RlRounds full() {
        return plain(new RlRounds(), 31, 120);
    }

    /** A chain of 18 SAME that grows in five rounds to all 361 among 13 .. 31, and plain triples. */
    private static RlRounds clique(int plain) {
        RlRounds x = new RlRounds();
        for (int term = 13; term < 31; term++) {
            x.say(term, SAME, term + 1);
        }
        return plain(x, 31, plain);
    }

    /** 102 SAID that round 1 makes 399, and plain triples. */
    private static RlRounds leap(int plain) {
        RlRounds x = saying(20, UNDER, 21, 20, UNDER, 22, 20, UNDER, 23);
        return plain(plain(x, 20, 99), 31, plain);
    }

    private static RlRounds most() {
        return clique(39);
    }

    private static RlRounds large() {
        return clique(40);
    }

    /** A clash of each kind, rules of one, two and four premises, and a group. */
    private static RlRounds mixed() {
        return saying(
                20, SAME, 21, 20, OTHER, 21,
                25, APART, 26, 24, TYPE, 25, 25, BELOW, 26,
                28, FIRST, 29, 28, THEN, 30, 22, 29, 23, 23, 30, 24,
                29, NEVER, 31, 22, 31, 23);
    }

    /** All that can be asked of a small state, in one text; some 40 calls and two for each triple. */
    private static String picture(RlRounds x) {
        StringBuilder all = new StringBuilder();
        all.append(x.said()).append(' ').append(x.size()).append(' ').append(x.run()).append(' ').append(x.clashes());
        for (int i = 0; i < x.size(); i++) {
            int code = x.triple(i);
            all.append(' ').append(code).append(':').append(x.round(code >> 10, code >> 5 & 31, code & 31));
        }
        for (int term = 0; term < 32; term++) {
            all.append(' ').append(x.group(term));
        }
        return all.toString();
    }

    private static String waysOf(RlRounds x, int s, int p, int o) {
        StringBuilder all = new StringBuilder();
        for (int i = 0; i < x.ways(s, p, o); i++) {
            for (int what = 0; what <= 4; what++) {
                all.append(x.way(s, p, o, i, what)).append(what < 4 ? ' ' : '|');
            }
        }
        return all.toString();
    }

    private static String clashesOf(RlRounds x) {
        StringBuilder all = new StringBuilder();
        for (int i = 0; i < x.clashes(); i++) {
            for (int what = 0; what <= 3; what++) {
                all.append(x.clash(i, what)).append(what < 3 ? ' ' : '|');
            }
        }
        return all.toString();
    }

    private static String row(int... numbers) {
        StringBuilder all = new StringBuilder();
        for (int i = 0; i < numbers.length; i++) {
            all.append(numbers[i]).append(i < numbers.length - 1 ? ' ' : '|');
        }
        return all.toString();
    }

    // ---- What it is

    @Edge(promise = 0, says = "An object is used for at most 512 calls")
    static void whatItIs_atMost512Calls_theLastChangeIsAsDue() {
        RlRounds x = new RlRounds();
        for (int call = 1; call <= 511; call++) {
            due("call " + call, call % 2 == 1 ? x.say(20, 21, 22) : x.unsay(20, 21, 22), 1);
        }
        due("call 512", x.unsay(20, 21, 22), 1);
    }

    @Edge(promise = 0, says = "An object is used for at most 512 calls")
    static void whatItIs_atMost512Calls_theLastQuestionIsAsDue() {
        RlRounds x = most();
        for (int call = 18 + 39 + 1; call <= 511; call += 2) {
            int pair = (call - 58) / 2;
            due("call " + call, pair % 2 == 0 ? x.unsay(0, 31, 0) : x.say(0, 31, 0), 1);
            due("call " + (call + 1), x.size(), pair % 2 == 0 ? 399 : 400);
        }
        due("call 512", x.run(), 5);
    }

    @Edge(promise = 0, says = "An object is used for at most 512 calls")
    static void whatItIs_atMost512Calls_theLastWayOfManyIsAsDue() {
        RlRounds x = most();
        for (int call = 18 + 39 + 1; call <= 512; call++) {
            due("call " + call, x.way(31, SAME, 31, 57, 0), 3);
        }
    }

    // ---- Terms

    @Edge(promise = 0, says = "TERMS are 0 .. 31")
    static void terms_0To31_eachIsOne() {
        RlRounds x = new RlRounds();
        for (int term = 0; term <= 31; term++) {
            due("s " + term, x.say(term, 31, 30), 1);
            due("p " + term, x.round(20, term, 20), NO);
            due("o " + term, x.ways(20, 30, term), 0);
            due("group " + term, x.group(term), term);
        }
        due("all said", x.said(), 32);
    }

    @Edge(promise = 0, says = "its CODE is 1024 s + 32 p + o")
    static void terms_code_leastAndGreatest() {
        RlRounds x = saying(31, 31, 31, 0, 0, 0, 1, 30, 31);
        due("least", x.triple(0), 0);
        due("between", x.triple(1), 1024 + 32 * 30 + 31);
        due("greatest", x.triple(2), 32767);
    }

    @Edge(promise = 0, says = "its CODE is 1024 s + 32 p + o")
    static void terms_code_partsDoNotMix() {
        RlRounds x = saying(0, 30, 31, 0, 31, 0, 1, 30, 0);
        due("0 30 31", x.triple(0), 991);
        due("0 31 0, next to it", x.triple(1), 992);
        due("1 30 0", x.triple(2), 1984);
    }

    @Edge(promise = 0, says = "Triples that are SAID: at most 120.")
    static void terms_said_atMost120() {
        RlRounds x = new RlRounds();
        for (int i = 0; i < 160; i++) {
            due("say " + i, x.say(i / 13, 31, i % 13), i < 120 ? 1 : FULL);
        }
        due("said", x.said(), 120);
    }

    @Edge(promise = 0, says = "RULES, numbered from 0, all on at first")
    static void terms_rules_allOnAtFirst() {
        RlRounds x = new RlRounds();
        for (int rule = 0; rule <= 20; rule++) {
            due("rule " + rule, x.rule(rule, true), 0);
        }
    }

    @Edge(promise = 0, says = "stand for any terms")
    static void terms_letters_twoMayStandForOneTerm() {
        RlRounds x = saying(20, TYPE, ONE, 21, 20, 22);
        due("y and z of rule 14 are 22", x.round(22, SAME, 22), 1);
        RlRounds self = saying(20, TYPE, FAR, 21, 20, 21);
        due("x, y and z of rule 7 are 21", self.ways(21, 20, 21), 1);
        RlRounds all = withRules(saying(UNDER, UNDER, UNDER), 10, 11);
        due("P, Q, x and y of rule 10, P, Q and R of rule 11 are UNDER", all.ways(UNDER, UNDER, UNDER), 2);
    }

    @Edge(promise = 0, says = "stand for any terms")
    static void terms_letters_mayStandForTermsWithAMeaning() {
        due("P is TYPE", saying(TYPE, TYPE, BOTH, 20, TYPE, 21).round(21, TYPE, 20), 1);
        due("Q is SAME", saying(20, UNDER, SAME, 21, 20, 22).round(22, SAME, 21), 2);
        due("R is BELOW", saying(20, UNDER, 21, 21, UNDER, BELOW).round(20, UNDER, BELOW), 1);
    }

    @Edge(promise = 0, says = "stand for any terms")
    static void terms_letters_mayStandForTheLeastAndTheGreatestTerm() {
        RlRounds x = saying(31, TYPE, BOTH, 0, 31, 31, 31, 31, 0);
        due("both hold", x.size(), 3);
        due("way to 0 31 31", x.way(0, 31, 31, 0, 2), code(31, 31, 0));
        due("way to 31 31 0", x.way(31, 31, 0, 0, 2), code(0, 31, 31));
    }

    @Edge(promise = 0, says = "in the order told here")
    static void terms_premises_inTheOrderToldHere() {
        RlRounds x = withRules(saying(20, 30, 21, 21, 31, 22, 29, THEN, 31, 29, FIRST, 30), 20);
        dueText("rule 20", waysOf(x, 20, 29, 22),
                row(20, code(29, FIRST, 30), code(29, THEN, 31), code(20, 30, 21), code(21, 31, 22)));
    }

    // ---- What holds

    @Edge(promise = 0, says = "in round 0 what is SAID")
    static void whatHolds_round0_alsoWhatWouldFollow() {
        RlRounds x = saying(20, 21, 22, 21, TYPE, BOTH, 22, 21, 20);
        due("SAID and a way to it", x.round(22, 21, 20), 0);
        due("its way", x.ways(22, 21, 20), 1);
        due("run", x.run(), 0);
    }

    @Edge(promise = 0, says = "whose premises all hold in rounds before")
    static void whatHolds_nextRound_doesNotUseWhatItBringsItself() {
        RlRounds x = withRules(saying(20, 21, 22, 21, UNDER, 23, 23, UNDER, 24, 24, UNDER, 25), 10);
        due("one step", x.round(20, 23, 22), 1);
        due("two steps", x.round(20, 24, 22), 2);
        due("three steps", x.round(20, 25, 22), 3);
        RlRounds back = withRules(saying(20, 25, 22, 25, UNDER, 24, 24, UNDER, 23, 23, UNDER, 21), 10);
        due("one step down", back.round(20, 24, 22), 1);
        due("two steps down", back.round(20, 23, 22), 2);
        due("three steps down", back.round(20, 21, 22), 3);
    }

    @Edge(promise = 0, says = "whose premises all hold in rounds before")
    static void whatHolds_nextRound_allPremisesAreNeeded() {
        RlRounds x = withRules(saying(28, FIRST, 29, 28, THEN, 30, 22, 29, 23, 23, 30, 24), 20);
        due("all four", x.round(22, 28, 24), 1);
        int[][] premises = {{28, FIRST, 29}, {28, THEN, 30}, {22, 29, 23}, {23, 30, 24}};
        for (int[] each : premises) {
            due("unsay", x.unsay(each[0], each[1], each[2]), 1);
            due("three of four", x.round(22, 28, 24), NO);
            due("say", x.say(each[0], each[1], each[2]), 1);
        }
        due("all four again", x.round(22, 28, 24), 1);
    }

    @Edge(promise = 0, says = "whose premises all hold in rounds before")
    static void whatHolds_nextRound_premisesOfDifferentRounds() {
        // 30 TYPE 24 needs 30 TYPE 23 of round 3 and what was SAID.
        RlRounds x = withRules(saying(20, BELOW, 21, 21, BELOW, 22, 22, BELOW, 23, 23, BELOW, 24, 30, TYPE, 20), 12);
        due("round 3", x.round(30, TYPE, 23), 3);
        due("round 4", x.round(30, TYPE, 24), 4);
    }

    @Edge(promise = 0, says = "what does not hold itself before")
    static void whatHolds_nextRound_keepsTheFirstRoundOfATriple() {
        // 30 TYPE 22 comes by 21 in round 1 and again by the longer way of 20.
        RlRounds x = withRules(saying(20, BELOW, 23, 23, BELOW, 22, 21, BELOW, 22, 30, TYPE, 20, 30, TYPE, 21), 12);
        due("ways", x.ways(30, TYPE, 22), 2);
        due("round", x.round(30, TYPE, 22), 1);
        due("run", x.run(), 1);
    }

    @Edge(promise = 0, says = "as long as a round brings something")
    static void whatHolds_asLongAsARoundBringsSomething_oneTripleARoundIsEnough() {
        RlRounds x = withRules(new RlRounds(), 12);
        for (int term = 1; term < 31; term++) {
            x.say(term, BELOW, term + 1);
        }
        due("0 TYPE 1", x.say(0, TYPE, 1), 1);
        due("thirty rounds", x.run(), 30);
        due("the last", x.round(0, TYPE, 31), 30);
    }

    @Edge(promise = 0, says = "as long as a round brings something")
    static void whatHolds_asLongAsARoundBringsSomething_aRingEnds() {
        RlRounds x = withRules(saying(20, BELOW, 21, 21, BELOW, 22, 22, BELOW, 20, 30, TYPE, 20), 12, 13);
        due("nine BELOW and three TYPE", x.size(), 12);
        due("run", x.run(), 2);
    }

    @Edge(promise = 0, says = "rules that are on")
    static void whatHolds_rulesThatAreOn_noneIs() {
        RlRounds x = withRules(mixed());
        due("size", x.size(), 11);
        due("run", x.run(), 0);
    }

    // ---- Too large

    @Edge(promise = 0, says = "When more than 400 triples would hold")
    static void tooLarge_moreThan400_400IsNot() {
        due("over several rounds", clique(39).size(), 400);
        due("in one round", leap(1).size(), 400);
        due("400 in a clique of 20", most20().size(), 400);
    }

    private static RlRounds most20() {
        RlRounds x = new RlRounds();
        for (int term = 12; term < 31; term++) {
            x.say(term + 1, SAME, term);
        }
        return x;
    }

    @Edge(promise = 0, says = "When more than 400 triples would hold")
    static void tooLarge_moreThan400_401Is() {
        due("over several rounds", clique(40).size(), LARGE);
        due("in one round", leap(2).size(), LARGE);
        RlRounds x = most20();
        due("one more", x.say(0, 30, 1), 1);
        due("a clique of 20 and one", x.size(), LARGE);
    }

    @Edge(promise = 0, says = "with all that a round brings")
    static void tooLarge_withAllThatARoundBrings_theLastRoundCountsToo() {
        // 104 are SAID, round 1 brings 297 at once and round 2 would bring nothing.
        due("run", leap(2).run(), LARGE);
        due("with two less", leap(0).run(), 1);
    }

    @Edge(promise = 0, says = "with all that a round brings")
    static void tooLarge_withAllThatARoundBrings_manyMoreThan400() {
        RlRounds x = new RlRounds();
        for (int term = 0; term < 31; term++) {
            x.say(term, SAME, term + 1);
        }
        due("1024 would hold", x.size(), LARGE);
        due("none is told", x.triple(0), LARGE);
    }

    @Edge(promise = 0, says = "When more than 400 triples would hold")
    static void tooLarge_endsWithAnUnsay() {
        RlRounds x = large();
        due("LARGE", x.size(), LARGE);
        due("unsay", x.unsay(2, 31, 12), 1);
        due("400", x.size(), 400);
        due("say", x.say(2, 31, 12), 1);
        due("LARGE again", x.size(), LARGE);
    }

    @Edge(promise = 0, says = "When more than 400 triples would hold")
    static void tooLarge_endsWithARuleOff() {
        RlRounds x = leap(2);
        due("LARGE", x.run(), LARGE);
        due("off", x.rule(10, false), 1);
        due("size", x.size(), 104);
        due("run", x.run(), 0);
        due("on", x.rule(10, true), 1);
        due("LARGE again", x.run(), LARGE);
    }

    @Edge(promise = 0, says = "When more than 400 triples would hold")
    static void tooLarge_leavesNothingBehind() {
        RlRounds x = large();
        due("LARGE", x.size(), LARGE);
        for (int term = 13; term < 31; term++) {
            due("unsay", x.unsay(term, SAME, term + 1), 1);
        }
        for (int i = 0; i < 40; i++) {
            due("unsay", x.unsay(i / 13, 31, i % 13), 1);
        }
        dueText("as new", picture(x), picture(new RlRounds()));
        sayAll(x, 20, SAME, 21);
        dueText("as one that was never LARGE", picture(x), picture(saying(20, SAME, 21)));
    }

    // ---- Ways

    @Edge(promise = 0, says = "an instance of a rule that is on and gives it")
    static void way_ofARuleThatIsOn() {
        RlRounds x = saying(20, 21, 22, 21, TYPE, BOTH, 22, 21, 20);
        due("on", x.ways(22, 21, 20), 1);
        due("off", x.rule(6, false), 1);
        due("it holds still", x.round(22, 21, 20), 0);
        due("without a way", x.ways(22, 21, 20), 0);
    }

    @Edge(promise = 0, says = "whose premises all hold (in whatever rounds)")
    static void way_inWhateverRounds_aPremiseOfALaterRound() {
        RlRounds x = saying(20, 21, 22, 21, TYPE, BOTH);
        due("the premise came later", x.round(22, 21, 20), 1);
        dueText("and is one", waysOf(x, 20, 21, 22), row(6, code(21, TYPE, BOTH), code(22, 21, 20), NO, NO));
    }

    @Edge(promise = 0, says = "whose premises all hold (in whatever rounds)")
    static void way_inWhateverRounds_theTripleItself() {
        RlRounds x = saying(20, SAME, 20);
        int itself = code(20, SAME, 20);
        dueText("rules 0 to 3", waysOf(x, 20, SAME, 20),
                row(0, itself, NO, NO, NO) + row(1, itself, itself, NO, NO)
                        + row(2, itself, itself, NO, NO) + row(3, itself, itself, NO, NO));
    }

    @Edge(promise = 0, says = "Ways are in the order of rules")
    static void way_order_ofRulesFirst() {
        // The premises of rule 12 are lesser than those of rule 5, which are lesser than rule 4's.
        RlRounds x = withRules(saying(30, FROM, 25, 29, TO, 25, 20, 30, 1, 2, 29, 20, 3, BELOW, 25, 20, TYPE, 3), 4, 5, 12);
        dueText("4, 5, 12", waysOf(x, 20, TYPE, 25),
                row(4, code(30, FROM, 25), code(20, 30, 1), NO, NO)
                        + row(5, code(29, TO, 25), code(2, 29, 20), NO, NO)
                        + row(12, code(3, BELOW, 25), code(20, TYPE, 3), NO, NO));
    }

    @Edge(promise = 0, says = "those of one rule by the codes of their first premises")
    static void way_order_ofFirstPremises() {
        RlRounds x = withRules(saying(30, UNDER, 31, 29, UNDER, 31, 28, UNDER, 31, 20, 28, 21, 20, 29, 21, 20, 30, 21), 10);
        dueText("28, 29, 30", waysOf(x, 20, 31, 21),
                row(10, code(28, UNDER, 31), code(20, 28, 21), NO, NO)
                        + row(10, code(29, UNDER, 31), code(20, 29, 21), NO, NO)
                        + row(10, code(30, UNDER, 31), code(20, 30, 21), NO, NO));
    }

    @Edge(promise = 0, says = "those of one rule by the codes of their first premises")
    static void way_order_ofFirstPremises_beforeSecondOnes() {
        // The second premises are in the other order than the first ones.
        RlRounds x = withRules(saying(30, TO, 25, 29, TO, 25, 21, 29, 20, 1, 30, 20), 5);
        dueText("rule 5", waysOf(x, 20, TYPE, 25),
                row(5, code(29, TO, 25), code(21, 29, 20), NO, NO)
                        + row(5, code(30, TO, 25), code(1, 30, 20), NO, NO));
        RlRounds chain = withRules(saying(
                28, FIRST, 30, 28, FIRST, 29, 28, THEN, 27, 28, THEN, 31,
                22, 30, 24, 24, 27, 26, 22, 29, 23, 23, 31, 26), 20);
        dueText("rule 20", waysOf(chain, 22, 28, 26),
                row(20, code(28, FIRST, 29), code(28, THEN, 31), code(22, 29, 23), code(23, 31, 26))
                        + row(20, code(28, FIRST, 30), code(28, THEN, 27), code(22, 30, 24), code(24, 27, 26)));
    }

    @Edge(promise = 0, says = "then of the second ones, and so on")
    static void way_order_ofSecondPremises() {
        RlRounds x = withRules(saying(24, HAS, 22, 24, BY, 31, 24, BY, 30, 20, 31, 22, 20, 30, 22), 19);
        dueText("rule 19", waysOf(x, 20, TYPE, 24),
                row(19, code(24, HAS, 22), code(24, BY, 30), code(20, 30, 22), NO)
                        + row(19, code(24, HAS, 22), code(24, BY, 31), code(20, 31, 22), NO));
        RlRounds terms = withRules(saying(30, FROM, 25, 20, 30, 31, 20, 30, 0, 20, 30, 7), 4);
        dueText("rule 4", waysOf(terms, 20, TYPE, 25),
                row(4, code(30, FROM, 25), code(20, 30, 0), NO, NO)
                        + row(4, code(30, FROM, 25), code(20, 30, 7), NO, NO)
                        + row(4, code(30, FROM, 25), code(20, 30, 31), NO, NO));
    }

    @Edge(promise = 0, says = "then of the second ones, and so on")
    static void way_order_ofSecondPremises_beforeThirdOnes() {
        RlRounds x = withRules(saying(
                28, FIRST, 29, 28, THEN, 31, 28, THEN, 27, 22, 29, 24, 24, 27, 26, 22, 29, 23, 23, 31, 26), 20);
        dueText("rule 20", waysOf(x, 22, 28, 26),
                row(20, code(28, FIRST, 29), code(28, THEN, 27), code(22, 29, 24), code(24, 27, 26))
                        + row(20, code(28, FIRST, 29), code(28, THEN, 31), code(22, 29, 23), code(23, 31, 26)));
    }

    @Edge(promise = 0, says = "then of the second ones, and so on")
    static void way_order_ofThirdPremises() {
        RlRounds x = withRules(saying(
                25, SOME, 26, 25, BY, 30, 20, 30, 23, 20, 30, 22, 22, TYPE, 26, 23, TYPE, 26), 16);
        dueText("rule 16", waysOf(x, 20, TYPE, 25),
                row(16, code(25, SOME, 26), code(25, BY, 30), code(20, 30, 22), code(22, TYPE, 26))
                        + row(16, code(25, SOME, 26), code(25, BY, 30), code(20, 30, 23), code(23, TYPE, 26)));
    }

    // ---- Clashes

    @Edge(promise = 0, says = "CLASHES, by kinds")
    static void clash_order_ofKindsFirst() {
        // The premises of kind 2 are lesser than those of kind 1, which are lesser than kind 0's.
        RlRounds x = withRules(saying(
                30, SAME, 31, 30, OTHER, 31, 25, APART, 26, 24, TYPE, 25, 24, TYPE, 26,
                20, NEVER, 21, 1, 20, 2, 1, 21, 2));
        dueText("0, 1, 2", clashesOf(x),
                row(0, code(30, SAME, 31), code(30, OTHER, 31), NO)
                        + row(1, code(25, APART, 26), code(24, TYPE, 25), code(24, TYPE, 26))
                        + row(2, code(20, NEVER, 21), code(1, 20, 2), code(1, 21, 2)));
    }

    @Edge(promise = 0, says = "those of one kind by the codes of their first premises, and so on")
    static void clash_order_ofFirstPremises() {
        RlRounds x = withRules(saying(
                26, APART, 27, 25, APART, 27, 30, TYPE, 25, 20, TYPE, 26, 30, TYPE, 27, 20, TYPE, 27));
        dueText("the second premises are in the other order", clashesOf(x),
                row(1, code(25, APART, 27), code(30, TYPE, 25), code(30, TYPE, 27))
                        + row(1, code(26, APART, 27), code(20, TYPE, 26), code(20, TYPE, 27)));
    }

    @Edge(promise = 0, says = "those of one kind by the codes of their first premises, and so on")
    static void clash_order_ofSecondPremises() {
        RlRounds x = withRules(saying(
                25, NEVER, 26, 21, 25, 20, 21, 26, 20, 20, 25, 31, 20, 26, 31, 20, 25, 0, 20, 26, 0));
        dueText("by s and then by o", clashesOf(x),
                row(2, code(25, NEVER, 26), code(20, 25, 0), code(20, 26, 0))
                        + row(2, code(25, NEVER, 26), code(20, 25, 31), code(20, 26, 31))
                        + row(2, code(25, NEVER, 26), code(21, 25, 20), code(21, 26, 20)));
    }

    // ---- Promise 1: a new object

    @Edge(promise = 1, says = "Nothing is SAID.")
    static void promise01_nothingIsSaid_everyAnswerIsEmpty() {
        RlRounds x = new RlRounds();
        due("said", x.said(), 0);
        due("size", x.size(), 0);
        due("run", x.run(), 0);
        due("triple(0)", x.triple(0), NO);
        due("round", x.round(0, 0, 0), NO);
        due("ways", x.ways(0, 0, 0), 0);
        due("way", x.way(0, 0, 0, 0, 0), NO);
        due("clashes", x.clashes(), 0);
        due("clash", x.clash(0, 0), NO);
        due("unsay", x.unsay(0, 0, 0), 0);
        for (int term = 0; term < 32; term++) {
            due("group " + term, x.group(term), term);
        }
    }

    @Edge(promise = 1, says = "Nothing is SAID.")
    static void promise01_nothingIsSaid_alsoBesideAFullOrLargeObject() {
        RlRounds full = full();
        RlRounds large = large();
        due("LARGE", large.size(), LARGE);
        RlRounds x = new RlRounds();
        due("said", x.said(), 0);
        due("size", x.size(), 0);
        due("say", x.say(0, 31, 0), 1);
        due("size of one", x.size(), 1);
        due("the full one", full.said(), 120);
        due("the large one", large.size(), LARGE);
    }

    @Edge(promise = 1, says = "Nothing is SAID.")
    static void promise01_nothingIsSaid_rulesAreOnBesideAnObjectWithRulesOff() {
        RlRounds off = withRules(new RlRounds());
        RlRounds x = saying(20, 21, 22, 21, TYPE, BOTH);
        due("a new one", x.size(), 3);
        sayAll(off, 20, 21, 22, 21, TYPE, BOTH);
        due("the one with rules off", off.size(), 2);
    }

    // ---- Promise 2: say

    @Edge(promise = 2, says = "A triple is SAID: 1")
    static void promise02_saidIs1_leastAndGreatestTerms() {
        RlRounds x = new RlRounds();
        due("all least", x.say(0, 0, 0), 1);
        due("all greatest", x.say(31, 31, 31), 1);
        due("s greatest", x.say(31, 0, 0), 1);
        due("p greatest", x.say(0, 31, 0), 1);
        due("o greatest", x.say(0, 0, 31), 1);
        due("said", x.said(), 5);
    }

    @Edge(promise = 2, says = "A triple is SAID: 1")
    static void promise02_saidIs1_oneThatFollowedComesInRound0Now() {
        RlRounds x = saying(20, 21, 22, 21, TYPE, BOTH);
        due("it follows", x.round(22, 21, 20), 1);
        due("say", x.say(22, 21, 20), 1);
        due("round", x.round(22, 21, 20), 0);
        due("size", x.size(), 3);
        due("run", x.run(), 0);
    }

    @Edge(promise = 2, says = "A triple is SAID: 1")
    static void promise02_saidIs1_againAfterUnsay() {
        RlRounds x = saying(20, 21, 22);
        due("unsay", x.unsay(20, 21, 22), 1);
        due("say", x.say(20, 21, 22), 1);
        due("it holds", x.round(20, 21, 22), 0);
    }

    @Edge(promise = 2, says = "A triple is SAID: 1")
    static void promise02_saidIs1_alsoWhenTooLarge() {
        RlRounds x = large();
        due("LARGE", x.size(), LARGE);
        due("say", x.say(12, 30, 12), 1);
        due("said", x.said(), 59);
    }

    @Edge(promise = 2, says = "0 when it was")
    static void promise02_0WhenItWas_changesNothing() {
        RlRounds x = mixed();
        due("again", x.say(20, SAME, 21), 0);
        due("and again", x.say(20, SAME, 21), 0);
        dueText("nothing changed", picture(x), picture(mixed()));
        due("one unsay is enough", x.unsay(20, SAME, 21), 1);
        due("it is gone", x.round(20, SAME, 21), NO);
    }

    @Edge(promise = 2, says = "0 when it was")
    static void promise02_0WhenItWas_leastAndGreatestTerms() {
        RlRounds x = saying(0, 0, 0, 31, 31, 31);
        due("least", x.say(0, 0, 0), 0);
        due("greatest", x.say(31, 31, 31), 0);
        due("said", x.said(), 2);
    }

    @Edge(promise = 2, says = "0 when it was")
    static void promise02_0WhenItWas_eachOf120WhenFull() {
        RlRounds x = full();
        for (int i = 0; i < 120; i++) {
            due("say " + i, x.say(i / 13, 31, i % 13), 0);
        }
        due("said", x.said(), 120);
    }

    @Edge(promise = 2, says = "0 when it was")
    static void promise02_0WhenItWas_alsoWhenTooLarge() {
        RlRounds x = large();
        due("LARGE", x.size(), LARGE);
        due("say", x.say(13, SAME, 14), 0);
        due("one that would follow is none", x.say(14, SAME, 13), 1);
    }

    @Edge(promise = 2, says = "BAD: a term that is none")
    static void promise02_BAD_aTermThatIsNone_s() {
        RlRounds x = new RlRounds();
        badForNoTerm("s", none -> x.say(none, 0, 0));
        due("said", x.said(), 0);
    }

    @Edge(promise = 2, says = "BAD: a term that is none")
    static void promise02_BAD_aTermThatIsNone_p() {
        RlRounds x = new RlRounds();
        badForNoTerm("p", none -> x.say(0, none, 0));
        due("said", x.said(), 0);
    }

    @Edge(promise = 2, says = "BAD: a term that is none")
    static void promise02_BAD_aTermThatIsNone_o() {
        RlRounds x = new RlRounds();
        badForNoTerm("o", none -> x.say(0, 0, none));
        due("said", x.said(), 0);
    }

    @Edge(promise = 2, says = "BAD: a term that is none")
    static void promise02_BAD_codesThatWrapIntoATriple() {
        RlRounds x = new RlRounds();
        due("0 0 32 is not 0 1 0", x.say(0, 0, 32), BAD);
        due("0 32 0 is not 1 0 0", x.say(0, 32, 0), BAD);
        due("1 -32 0 is not 0 0 0", x.say(1, -32, 0), BAD);
        due("0 1 -32 is not 0 0 0", x.say(0, 1, -32), BAD);
        due("1 -1 32", x.say(1, -1, 32), BAD);
        due("size", x.size(), 0);
    }

    @Edge(promise = 2, says = "BAD: a term that is none")
    static void promise02_BAD_changesNothing() {
        RlRounds x = mixed();
        due("BAD", x.say(20, SAME, 32), BAD);
        due("BAD", x.say(-1, SAME, 20), BAD);
        dueText("nothing changed", picture(x), picture(mixed()));
    }

    @Edge(promise = 2, says = "BAD: a term that is none")
    static void promise02_BAD_beforeFULL() {
        RlRounds x = full();
        badForNoTerm("s", none -> x.say(none, 31, 0));
        badForNoTerm("o", none -> x.say(0, 31, none));
    }

    @Edge(promise = 2, says = "FULL")
    static void promise02_FULL_the120thIsSaid_the121stIsNot() {
        RlRounds x = plain(new RlRounds(), 31, 119);
        due("the 120th", x.say(31, 31, 31), 1);
        due("the 121st", x.say(31, 31, 30), FULL);
        due("and any other", x.say(0, 0, 0), FULL);
    }

    @Edge(promise = 2, says = "FULL")
    static void promise02_FULL_changesNothing() {
        RlRounds x = full();
        due("FULL", x.say(31, TYPE, BOTH), FULL);
        due("said", x.said(), 120);
        due("size", x.size(), 120);
        due("it does not hold", x.round(31, TYPE, BOTH), NO);
        due("nothing follows", x.run(), 0);
        due("it is not SAID", x.unsay(31, TYPE, BOTH), 0);
        due("the first is", x.round(0, 31, 0), 0);
        due("the last is", x.round(9, 31, 2), 0);
    }

    @Edge(promise = 2, says = "FULL")
    static void promise02_FULL_oneThatFollowsIsNotSaid() {
        RlRounds x = plain(saying(20, 21, 22, 21, TYPE, BOTH), 31, 118);
        due("it holds", x.round(22, 21, 20), 1);
        due("but cannot be SAID", x.say(22, 21, 20), FULL);
        due("its round stays", x.round(22, 21, 20), 1);
    }

    @Edge(promise = 2, says = "FULL")
    static void promise02_FULL_notAfterAnUnsay() {
        RlRounds x = full();
        due("FULL", x.say(30, 31, 30), FULL);
        due("unsay", x.unsay(4, 31, 4), 1);
        due("one more", x.say(30, 31, 30), 1);
        due("FULL again", x.say(4, 31, 4), FULL);
        due("the new one holds", x.round(30, 31, 30), 0);
        due("the old one does not", x.round(4, 31, 4), NO);
    }

    @Edge(promise = 2, says = "FULL")
    static void promise02_FULL_alsoWhenTooLarge() {
        RlRounds x = clique(102);
        due("LARGE", x.size(), LARGE);
        due("FULL", x.say(30, 31, 30), FULL);
        due("BAD", x.say(30, 31, 32), BAD);
        due("0", x.say(13, SAME, 14), 0);
    }

    // ---- Promise 3: unsay

    @Edge(promise = 3, says = "A triple is not SAID any more: 1")
    static void promise03_1_theOnlyOne() {
        RlRounds x = saying(20, 21, 22);
        due("unsay", x.unsay(20, 21, 22), 1);
        dueText("as new", picture(x), picture(new RlRounds()));
    }

    @Edge(promise = 3, says = "A triple is not SAID any more: 1")
    static void promise03_1_theFirstOrTheLast_theOthersStay() {
        RlRounds x = saying(20, 21, 22, 23, 24, 25, 26, 27, 28, 0, 0, 0, 31, 31, 31);
        due("the first", x.unsay(20, 21, 22), 1);
        due("the last", x.unsay(31, 31, 31), 1);
        due("the least", x.unsay(0, 0, 0), 1);
        due("said", x.said(), 2);
        due("triple 0", x.triple(0), code(23, 24, 25));
        due("triple 1", x.triple(1), code(26, 27, 28));
        due("no more", x.triple(2), NO);
    }

    @Edge(promise = 3, says = "A triple is not SAID any more: 1")
    static void promise03_1_eachOf120() {
        RlRounds x = full();
        for (int i = 0; i < 120; i++) {
            int pick = i * 7 % 120;
            due("unsay " + pick, x.unsay(pick / 13, 31, pick % 13), 1);
            due("said", x.said(), 119 - i);
        }
        due("size", x.size(), 0);
    }

    @Edge(promise = 3, says = "A triple is not SAID any more: 1")
    static void promise03_1_itMayFollowStill() {
        RlRounds x = saying(20, 21, 22, 22, 21, 20, 21, TYPE, BOTH);
        due("round", x.round(20, 21, 22), 0);
        due("unsay", x.unsay(20, 21, 22), 1);
        due("it follows", x.round(20, 21, 22), 1);
        due("not SAID", x.unsay(20, 21, 22), 0);
    }

    @Edge(promise = 3, says = "A triple is not SAID any more: 1")
    static void promise03_1_whatFollowedIsGoneWithIt() {
        RlRounds x = saying(20, SAME, 21, 21, SAME, 22);
        due("nine", x.size(), 9);
        due("unsay", x.unsay(20, SAME, 21), 1);
        due("four", x.size(), 4);
        due("unsay the other", x.unsay(21, SAME, 22), 1);
        due("a ring of SAME does not hold itself", x.size(), 0);
    }

    @Edge(promise = 3, says = "A triple is not SAID any more: 1")
    static void promise03_1_alsoWhenTooLarge() {
        RlRounds x = large();
        due("LARGE", x.size(), LARGE);
        due("unsay", x.unsay(0, 31, 0), 1);
        due("said", x.said(), 57);
        due("size", x.size(), 400);
    }

    @Edge(promise = 3, says = "0 when it was not")
    static void promise03_0WhenItWasNot_nothingIsSaid() {
        RlRounds x = new RlRounds();
        due("least", x.unsay(0, 0, 0), 0);
        due("greatest", x.unsay(31, 31, 31), 0);
        due("said", x.said(), 0);
    }

    @Edge(promise = 3, says = "0 when it was not")
    static void promise03_0WhenItWasNot_twice() {
        RlRounds x = saying(20, 21, 22, 23, 24, 25);
        due("unsay", x.unsay(20, 21, 22), 1);
        due("again", x.unsay(20, 21, 22), 0);
        due("said", x.said(), 1);
    }

    @Edge(promise = 3, says = "0 when it was not")
    static void promise03_0WhenItWasNot_itOnlyFollows() {
        RlRounds x = saying(20, 21, 22, 21, TYPE, BOTH);
        due("it follows", x.round(22, 21, 20), 1);
        due("unsay", x.unsay(22, 21, 20), 0);
        due("it follows still", x.round(22, 21, 20), 1);
    }

    @Edge(promise = 3, says = "0 when it was not")
    static void promise03_0WhenItWasNot_changesNothing() {
        RlRounds x = mixed();
        due("the same terms in another order", x.unsay(21, SAME, 20), 0);
        due("others", x.unsay(0, 0, 0), 0);
        dueText("nothing changed", picture(x), picture(mixed()));
    }

    @Edge(promise = 3, says = "0 when it was not")
    static void promise03_0WhenItWasNot_alsoWhenTooLargeOrFull() {
        RlRounds x = large();
        due("LARGE", x.size(), LARGE);
        due("not SAID", x.unsay(14, SAME, 13), 0);
        due("not SAID, full", full().unsay(14, SAME, 13), 0);
    }

    @Edge(promise = 3, says = "BAD.")
    static void promise03_BAD_s() {
        RlRounds x = saying(0, 0, 0);
        badForNoTerm("s", none -> x.unsay(none, 0, 0));
        due("said", x.said(), 1);
    }

    @Edge(promise = 3, says = "BAD.")
    static void promise03_BAD_p() {
        RlRounds x = saying(0, 0, 0);
        badForNoTerm("p", none -> x.unsay(0, none, 0));
        due("said", x.said(), 1);
    }

    @Edge(promise = 3, says = "BAD.")
    static void promise03_BAD_o() {
        RlRounds x = saying(0, 0, 0);
        badForNoTerm("o", none -> x.unsay(0, 0, none));
        due("said", x.said(), 1);
    }

    @Edge(promise = 3, says = "BAD.")
    static void promise03_BAD_changesNothing() {
        RlRounds x = saying(0, 1, 0, 1, 0, 0);
        due("0 0 32 is not 0 1 0", x.unsay(0, 0, 32), BAD);
        due("0 32 0 is not 1 0 0", x.unsay(0, 32, 0), BAD);
        due("0 2 -32 is not 0 1 0", x.unsay(0, 2, -32), BAD);
        dueText("nothing changed", picture(x), picture(saying(0, 1, 0, 1, 0, 0)));
    }

    @Edge(promise = 3, says = "BAD.")
    static void promise03_BAD_alsoWhenTooLargeFullOrEmpty() {
        RlRounds x = large();
        due("LARGE", x.size(), LARGE);
        due("large", x.unsay(13, SAME, 32), BAD);
        due("full", full().unsay(-1, 31, 0), BAD);
        due("empty", new RlRounds().unsay(0, 32, 0), BAD);
    }

    // ---- Promise 4: rule

    @Edge(promise = 4, says = "A rule is on or off: 1")
    static void promise04_1_theFirstAndTheLastRule() {
        RlRounds x = saying(20, SAME, 21, 28, FIRST, 29, 28, THEN, 30, 22, 29, 23, 23, 30, 24);
        due("rule 0 off", x.rule(0, false), 1);
        due("0", x.round(21, SAME, 20), NO);
        due("rule 20 off", x.rule(20, false), 1);
        due("20", x.round(22, 28, 24), NO);
        due("rule 0 on", x.rule(0, true), 1);
        due("0 on", x.round(21, SAME, 20), 1);
        due("rule 20 on", x.rule(20, true), 1);
        due("20 on", x.round(22, 28, 24), 1);
    }

    @Edge(promise = 4, says = "A rule is on or off: 1")
    static void promise04_1_noOtherRuleChanges() {
        for (int rule = 0; rule <= 20; rule++) {
            RlRounds x = new RlRounds();
            due("off " + rule, x.rule(rule, false), 1);
            for (int other = 0; other <= 20; other++) {
                if (other != rule) {
                    due(other + " with " + rule + " off", x.rule(other, true), 0);
                }
            }
        }
    }

    @Edge(promise = 4, says = "A rule is on or off: 1")
    static void promise04_1_saidIsNotChanged() {
        RlRounds x = mixed();
        withRules(x);
        due("said", x.said(), 11);
        due("size", x.size(), 11);
        withRules(x, 0, 1, 2, 3, 4, 5, 6, 7, 8, 9, 10, 11, 12, 13, 14, 15, 16, 17, 18, 19, 20);
        dueText("all on again", picture(x), picture(mixed()));
    }

    @Edge(promise = 4, says = "A rule is on or off: 1")
    static void promise04_1_alsoWhenTooLargeOrFull() {
        RlRounds x = large();
        due("LARGE", x.size(), LARGE);
        due("off", x.rule(20, false), 1);
        due("still LARGE", x.size(), LARGE);
        due("full", full().rule(0, false), 1);
    }

    @Edge(promise = 4, says = "0 when it was so")
    static void promise04_0WhenItWasSo_onWhenNew() {
        RlRounds x = new RlRounds();
        due("rule 0", x.rule(0, true), 0);
        due("rule 20", x.rule(20, true), 0);
    }

    @Edge(promise = 4, says = "0 when it was so")
    static void promise04_0WhenItWasSo_offTwiceAndOnTwice() {
        for (int rule = 0; rule <= 20; rule++) {
            RlRounds x = new RlRounds();
            due("off", x.rule(rule, false), 1);
            due("off again", x.rule(rule, false), 0);
            due("on", x.rule(rule, true), 1);
            due("on again", x.rule(rule, true), 0);
        }
    }

    @Edge(promise = 4, says = "0 when it was so")
    static void promise04_0WhenItWasSo_changesNothing() {
        RlRounds x = mixed();
        due("rule 1 off", x.rule(1, false), 1);
        String before = picture(x);
        due("off again", x.rule(1, false), 0);
        due("another is on", x.rule(0, true), 0);
        dueText("nothing changed", picture(x), before);
    }

    @Edge(promise = 4, says = "BAD.")
    static void promise04_BAD_tooSmallAndTooLarge() {
        RlRounds x = new RlRounds();
        for (int none : new int[] {-1, 21, 22, 31, MIN, MAX}) {
            due("off " + none, x.rule(none, false), BAD);
            due("on " + none, x.rule(none, true), BAD);
        }
    }

    @Edge(promise = 4, says = "BAD.")
    static void promise04_BAD_numbersThatWrapIntoARule() {
        RlRounds x = new RlRounds();
        for (int none : new int[] {32, 52, 64, -32, -12, 1 << 20, 256, MIN + 20}) {
            due("off " + none, x.rule(none, false), BAD);
        }
        for (int rule = 0; rule <= 20; rule++) {
            due(rule + " is on", x.rule(rule, true), 0);
        }
    }

    @Edge(promise = 4, says = "BAD.")
    static void promise04_BAD_changesNothing() {
        RlRounds x = mixed();
        due("BAD", x.rule(21, false), BAD);
        due("BAD", x.rule(-1, false), BAD);
        due("BAD", x.rule(32, false), BAD);
        dueText("nothing changed", picture(x), picture(mixed()));
    }

    // ---- Promise 5: run

    @Edge(promise = 5, says = "The greatest round in which something came.")
    static void promise05_greatestRound_0WhenNothingIsSaid() {
        due("run", new RlRounds().run(), 0);
        RlRounds x = saying(20, SAME, 21);
        due("two rounds", x.run(), 2);
        due("unsay", x.unsay(20, SAME, 21), 1);
        due("empty again", x.run(), 0);
    }

    @Edge(promise = 5, says = "The greatest round in which something came.")
    static void promise05_greatestRound_0WhenNothingFollows() {
        due("run", saying(20, 21, 22).run(), 0);
        due("full", full().run(), 0);
    }

    @Edge(promise = 5, says = "The greatest round in which something came.")
    static void promise05_greatestRound_aRoundThatBringsOnlyWhatHoldsIsNone() {
        due("20 SAME 20", saying(20, SAME, 20).run(), 0);
        due("both directions", saying(20, 21, 22, 22, 21, 20, 21, TYPE, BOTH).run(), 0);
        due("after round 1", saying(20, 21, 22, 21, TYPE, BOTH).run(), 1);
    }

    @Edge(promise = 5, says = "The greatest round in which something came.")
    static void promise05_greatestRound_ofSeveralLines() {
        // BELOW comes in round 1 and the line of TYPE in round 3.
        RlRounds x = withRules(saying(20, BELOW, 21, 21, BELOW, 22, 22, BELOW, 23, 30, TYPE, 20, 1, 31, 2), 12);
        due("with rule 12", x.run(), 3);
        due("on", x.rule(13, true), 1);
        due("with rule 13 too", x.run(), 2);
        due("asked again", x.run(), 2);
    }

    @Edge(promise = 5, says = "LARGE.")
    static void promise05_LARGE_at401NotAt400() {
        due("400 over rounds", clique(39).run(), 5);
        due("400 in one round", leap(1).run(), 1);
        due("401 over rounds", clique(40).run(), LARGE);
        due("401 in one round", leap(2).run(), LARGE);
    }

    // ---- Promise 6: size

    @Edge(promise = 6, says = "How many triples hold.")
    static void promise06_howMany_0WhenNothingIsSaid() {
        due("size", new RlRounds().size(), 0);
    }

    @Edge(promise = 6, says = "How many triples hold.")
    static void promise06_howMany_oneThatIsSaidAndFollowsCountsOnce() {
        due("size", saying(20, 21, 22, 22, 21, 20, 21, TYPE, BOTH).size(), 3);
        due("two ways to one", saying(30, FROM, 25, 20, 30, 21, 20, 30, 22).size(), 4);
    }

    @Edge(promise = 6, says = "How many triples hold.")
    static void promise06_howMany_whenFull() {
        due("size", full().size(), 120);
    }

    @Edge(promise = 6, says = "LARGE.")
    static void promise06_LARGE_at401NotAt400() {
        due("399", clique(38).size(), 399);
        due("400", clique(39).size(), 400);
        due("401", clique(40).size(), LARGE);
        due("402", clique(41).size(), LARGE);
    }

    @Edge(promise = 6, says = "LARGE.")
    static void promise06_LARGE_notForOneMoreSaidThatFollowsAnyway() {
        RlRounds x = most();
        due("say", x.say(31, SAME, 13), 1);
        due("400", x.size(), 400);
        due("say one more", x.say(12, 30, 12), 1);
        due("LARGE", x.size(), LARGE);
    }

    // ---- Promise 7: triple

    @Edge(promise = 7, says = "The code of the i-th triple that holds, by codes.")
    static void promise07_ithByCodes_theFirstIs0() {
        RlRounds x = saying(31, 31, 31, 0, 0, 1, 0, 0, 0);
        due("triple(0)", x.triple(0), 0);
        due("triple(1)", x.triple(1), 1);
        due("triple(2)", x.triple(2), 32767);
    }

    @Edge(promise = 7, says = "The code of the i-th triple that holds, by codes.")
    static void promise07_ithByCodes_whatFollowsStandsAmongWhatIsSaid() {
        RlRounds x = saying(22, 21, 20, 21, TYPE, BOTH, 23, 21, 19);
        int[] want = {code(19, 21, 23), code(20, 21, 22), code(21, TYPE, BOTH), code(22, 21, 20), code(23, 21, 19)};
        for (int i = 0; i < want.length; i++) {
            due("triple " + i, x.triple(i), want[i]);
        }
    }

    @Edge(promise = 7, says = "The code of the i-th triple that holds, by codes.")
    static void promise07_ithByCodes_all400() {
        RlRounds x = most();
        for (int i = 0; i < 39; i++) {
            due("triple " + i, x.triple(i), code(i / 13, 31, i % 13));
        }
        for (int i = 0; i < 361; i++) {
            due("triple " + (39 + i), x.triple(39 + i), code(13 + i / 19, SAME, 13 + i % 19));
        }
    }

    @Edge(promise = 7, says = "NO: there are not so many")
    static void promise07_NO_nothingHolds() {
        RlRounds x = new RlRounds();
        noForEach("triple", x::triple, 0, 1, -1, MIN, MAX);
    }

    @Edge(promise = 7, says = "NO: there are not so many")
    static void promise07_NO_oneTooFar() {
        RlRounds x = saying(20, SAME, 21);
        due("the last of four", x.triple(3), code(21, SAME, 21));
        due("the fifth", x.triple(4), NO);
        due("the last of 400", most().triple(399), code(31, SAME, 31));
        due("the 401st", most().triple(400), NO);
    }

    @Edge(promise = 7, says = "NO: there are not so many")
    static void promise07_NO_belowZeroAndFarAway() {
        RlRounds x = saying(20, SAME, 21);
        noForEach("triple", x::triple, -1, -4, MIN, MIN + 1, MAX, 32767, 1 << 16);
    }

    @Edge(promise = 7, says = "LARGE.")
    static void promise07_LARGE_forEachI() {
        RlRounds x = large();
        largeForEach("triple", x::triple, 0, 1, 399, 400, 401, MAX);
        // The document leaves open which of NO and LARGE goes first; LARGE does so in all others.
        largeForEach("triple", x::triple, -1, MIN);
    }

    // ---- Promise 8: round

    @Edge(promise = 8, says = "The round in which a triple came.")
    static void promise08_round_0ForWhatIsSaid() {
        RlRounds x = saying(0, 0, 0, 31, 31, 31);
        due("least", x.round(0, 0, 0), 0);
        due("greatest", x.round(31, 31, 31), 0);
        due("each of 120", full().round(9, 31, 2), 0);
    }

    @Edge(promise = 8, says = "The round in which a triple came.")
    static void promise08_round_ofTheLastRoundIsRun() {
        RlRounds x = clique(39);
        due("the farthest", x.round(31, SAME, 13), x.run());
        due("run", x.run(), 5);
        due("a neighbour", x.round(14, SAME, 13), 1);
        due("one itself, by rule 2", x.round(14, SAME, 14), 1);
        due("the first itself, by what came in round 1", x.round(13, SAME, 13), 2);
    }

    @Edge(promise = 8, says = "BAD")
    static void promise08_BAD_s() {
        RlRounds x = saying(0, 0, 0);
        badForNoTerm("s", none -> x.round(none, 0, 0));
    }

    @Edge(promise = 8, says = "BAD")
    static void promise08_BAD_p() {
        RlRounds x = saying(0, 0, 0);
        badForNoTerm("p", none -> x.round(0, none, 0));
    }

    @Edge(promise = 8, says = "BAD")
    static void promise08_BAD_o() {
        RlRounds x = saying(0, 0, 0, 0, 1, 0, 1, 0, 0);
        badForNoTerm("o", none -> x.round(0, 0, none));
    }

    @Edge(promise = 8, says = "BAD")
    static void promise08_BAD_beforeLARGE() {
        RlRounds x = large();
        badForNoTerm("s", none -> x.round(none, SAME, 14));
        badForNoTerm("p", none -> x.round(13, none, 14));
        badForNoTerm("o", none -> x.round(13, SAME, none));
    }

    @Edge(promise = 8, says = "LARGE")
    static void promise08_LARGE_beforeNO() {
        RlRounds x = large();
        due("one that is SAID", x.round(13, SAME, 14), LARGE);
        due("one that would follow", x.round(14, SAME, 13), LARGE);
        due("one that would not", x.round(13, OTHER, 14), LARGE);
        due("400", most().round(13, OTHER, 14), NO);
    }

    @Edge(promise = 8, says = "NO when it does not hold.")
    static void promise08_NO_whenItDoesNotHold() {
        RlRounds x = saying(20, 21, 22);
        due("another order of terms", x.round(22, 21, 20), NO);
        due("another s", x.round(21, 21, 22), NO);
        due("another p", x.round(20, 22, 22), NO);
        due("another o", x.round(20, 21, 23), NO);
        due("nothing SAID", new RlRounds().round(20, 21, 22), NO);
    }

    @Edge(promise = 8, says = "NO when it does not hold.")
    static void promise08_NO_whenItDoesNotHoldAnyMore() {
        RlRounds x = saying(20, 21, 22, 21, TYPE, BOTH);
        due("it follows", x.round(22, 21, 20), 1);
        due("off", x.rule(6, false), 1);
        due("rule off", x.round(22, 21, 20), NO);
        due("on", x.rule(6, true), 1);
        due("rule on", x.round(22, 21, 20), 1);
        due("unsay", x.unsay(21, TYPE, BOTH), 1);
        due("a premise less", x.round(22, 21, 20), NO);
        due("unsay", x.unsay(20, 21, 22), 1);
        due("not SAID", x.round(20, 21, 22), NO);
    }

    // ---- Promise 9: ways

    @Edge(promise = 9, says = "How many WAYS there are to a triple")
    static void promise09_howMany_0ForOneThatIsSaidAlone() {
        RlRounds x = saying(20, 21, 22);
        due("ways", x.ways(20, 21, 22), 0);
        due("it holds", x.round(20, 21, 22), 0);
    }

    @Edge(promise = 9, says = "How many WAYS there are to a triple")
    static void promise09_howMany_oneInstanceWithTwoEqualPremisesIsOneWay() {
        RlRounds x = withRules(saying(30, TYPE, ONE, 20, 30, 21), 14);
        due("ways", x.ways(21, SAME, 21), 1);
        int premise = code(20, 30, 21);
        dueText("its premises", waysOf(x, 21, SAME, 21), row(14, code(30, TYPE, ONE), premise, premise, NO));
    }

    @Edge(promise = 9, says = "How many WAYS there are to a triple")
    static void promise09_howMany_twoRulesWithTheSamePremiseAreTwoWays() {
        // 30 TURNED 30: rule 8 and rule 9 give the same from the same.
        RlRounds x = withRules(saying(30, TURNED, 30, 20, 30, 21), 8, 9);
        due("ways", x.ways(21, 30, 20), 2);
        due("the first", x.way(21, 30, 20, 0, 0), 8);
        due("the second", x.way(21, 30, 20, 1, 0), 9);
    }

    @Edge(promise = 9, says = "How many WAYS there are to a triple")
    static void promise09_howMany_inTheGreatestStates() {
        due("clique of 19", most().ways(13, SAME, 31), 1 + 3 * 19);
        due("clique of 20", most20().ways(12, SAME, 12), 1 + 3 * 20);
    }

    @Edge(promise = 9, says = "(0 also when it does not hold)")
    static void promise09_0_whenItDoesNotHold() {
        RlRounds x = saying(20, 21, 22, 21, TYPE, BOTH);
        due("one that does not follow", x.ways(22, 21, 21), 0);
        due("nothing SAID", new RlRounds().ways(20, 21, 22), 0);
        due("off", x.rule(6, false), 1);
        due("one whose rule is off", x.ways(22, 21, 20), 0);
        RlRounds part = saying(28, FIRST, 29, 28, THEN, 30, 22, 29, 23);
        due("one that lacks a premise", part.ways(22, 28, 24), 0);
    }

    @Edge(promise = 9, says = "BAD")
    static void promise09_BAD_s() {
        RlRounds x = saying(0, 0, 0);
        badForNoTerm("s", none -> x.ways(none, 0, 0));
    }

    @Edge(promise = 9, says = "BAD")
    static void promise09_BAD_p() {
        RlRounds x = saying(0, 0, 0);
        badForNoTerm("p", none -> x.ways(0, none, 0));
    }

    @Edge(promise = 9, says = "BAD")
    static void promise09_BAD_o() {
        RlRounds x = saying(0, 0, 0);
        badForNoTerm("o", none -> x.ways(0, 0, none));
    }

    @Edge(promise = 9, says = "BAD")
    static void promise09_BAD_beforeLARGE() {
        RlRounds x = large();
        badForNoTerm("s", none -> x.ways(none, SAME, 14));
        badForNoTerm("p", none -> x.ways(13, none, 14));
        badForNoTerm("o", none -> x.ways(13, SAME, none));
    }

    @Edge(promise = 9, says = "LARGE.")
    static void promise09_LARGE_alsoForOneThatWouldNotHold() {
        RlRounds x = large();
        due("one that is SAID", x.ways(13, SAME, 14), LARGE);
        due("one that would not hold", x.ways(13, OTHER, 14), LARGE);
        due("400", most().ways(13, OTHER, 14), 0);
    }

    // ---- Promise 10: way

    @Edge(promise = 10, says = "Of its i-th WAY: the rule (what = 0)")
    static void promise10_rule_theFirstAndTheLastRule() {
        RlRounds same = saying(20, SAME, 21);
        due("rule 0", same.way(21, SAME, 20, 0, 0), 0);
        RlRounds chain = saying(28, FIRST, 29, 28, THEN, 30, 22, 29, 23, 23, 30, 24);
        due("rule 20", chain.way(22, 28, 24, 0, 0), 20);
    }

    @Edge(promise = 10, says = "Of its i-th WAY: the rule (what = 0)")
    static void promise10_rule_theFirstAndTheLastWay() {
        RlRounds x = most();
        due("way 0", x.way(13, SAME, 31, 0, 0), 0);
        due("way 1", x.way(13, SAME, 31, 1, 0), 1);
        due("way 57", x.way(13, SAME, 31, 57, 0), 3);
        due("its premise", x.way(13, SAME, 31, 57, 1), code(31, SAME, 31));
    }

    @Edge(promise = 10, says = "the code of a premise (1 .. 4)")
    static void promise10_premise_ofRulesWithOneToFour() {
        dueText("one", waysOf(withRules(saying(20, SAME, 21), 0), 21, SAME, 20),
                row(0, code(20, SAME, 21), NO, NO, NO));
        dueText("two", waysOf(withRules(saying(30, FROM, 25, 20, 30, 21), 4), 20, TYPE, 25),
                row(4, code(30, FROM, 25), code(20, 30, 21), NO, NO));
        dueText("three", waysOf(withRules(saying(30, TYPE, FAR, 20, 30, 21, 21, 30, 22), 7), 20, 30, 22),
                row(7, code(30, TYPE, FAR), code(20, 30, 21), code(21, 30, 22), NO));
        dueText("four", waysOf(withRules(saying(25, SOME, 26, 25, BY, 30, 20, 30, 21, 21, TYPE, 26), 16), 20, TYPE, 25),
                row(16, code(25, SOME, 26), code(25, BY, 30), code(20, 30, 21), code(21, TYPE, 26)));
    }

    @Edge(promise = 10, says = "the code of a premise (1 .. 4)")
    static void promise10_premise_leastAndGreatestCode() {
        RlRounds least = withRules(saying(0, UNDER, 20, 0, 0, 0), 10);
        due("code 0", least.way(0, 20, 0, 0, 2), 0);
        RlRounds greatest = withRules(saying(31, UNDER, 20, 31, 31, 31), 10);
        due("code 32767", greatest.way(31, 20, 31, 0, 2), 32767);
    }

    @Edge(promise = 10, says = "the code of a premise (1 .. 4)")
    static void promise10_premise_isNotMixedWithTheCallBefore() {
        RlRounds x = withRules(mixed(), 12, 20);
        due("four premises", x.way(22, 28, 24, 0, 4), code(23, 30, 24));
        due("a clash between", x.clash(1, 3), code(24, TYPE, 26));
        due("two premises", x.way(24, TYPE, 26, 0, 2), code(24, TYPE, 25));
        due("no third", x.way(24, TYPE, 26, 0, 3), NO);
        due("four again", x.way(22, 28, 24, 0, 3), code(22, 29, 23));
        due("one too many", x.way(22, 28, 24, 1, 3), NO);
    }

    @Edge(promise = 10, says = "BAD: a term, or what is none")
    static void promise10_BAD_aTerm_s() {
        RlRounds x = saying(0, 0, 0);
        badForNoTerm("s", none -> x.way(none, 0, 0, 0, 0));
    }

    @Edge(promise = 10, says = "BAD: a term, or what is none")
    static void promise10_BAD_aTerm_p() {
        RlRounds x = saying(0, 0, 0);
        badForNoTerm("p", none -> x.way(0, none, 0, 0, 0));
    }

    @Edge(promise = 10, says = "BAD: a term, or what is none")
    static void promise10_BAD_aTerm_o() {
        RlRounds x = saying(0, 0, 0);
        badForNoTerm("o", none -> x.way(0, 0, none, 0, 0));
    }

    @Edge(promise = 10, says = "BAD: a term, or what is none")
    static void promise10_BAD_whatIsNone() {
        RlRounds x = saying(20, SAME, 21);
        for (int none : new int[] {-1, 5, 6, 32, -4, MIN, MAX}) {
            due("what " + none, x.way(21, SAME, 20, 0, none), BAD);
        }
        due("what 0 is one", x.way(21, SAME, 20, 0, 0), 0);
        due("what 4 is one", x.way(21, SAME, 20, 0, 4), NO);
    }

    @Edge(promise = 10, says = "BAD: a term, or what is none")
    static void promise10_BAD_beforeNO() {
        RlRounds x = saying(20, 21, 22);
        due("what, without a way", x.way(20, 21, 22, 0, 5), BAD);
        due("what, i below", x.way(20, 21, 22, -1, -1), BAD);
        due("a term, i below", x.way(20, 21, 32, -1, 0), BAD);
        due("nothing SAID", new RlRounds().way(20, 21, 22, 0, 5), BAD);
    }

    @Edge(promise = 10, says = "BAD: a term, or what is none")
    static void promise10_BAD_beforeLARGE() {
        RlRounds x = large();
        badForNoTerm("s", none -> x.way(none, SAME, 14, 0, 0));
        badForNoTerm("p", none -> x.way(13, none, 14, 0, 0));
        badForNoTerm("o", none -> x.way(13, SAME, none, 0, 0));
        due("what 5", x.way(13, SAME, 14, 0, 5), BAD);
        due("what -1", x.way(13, SAME, 14, 0, -1), BAD);
    }

    @Edge(promise = 10, says = "LARGE")
    static void promise10_LARGE_beforeNO() {
        RlRounds x = large();
        due("a way", x.way(14, SAME, 13, 0, 0), LARGE);
        due("a premise", x.way(14, SAME, 13, 0, 4), LARGE);
        due("one that would not hold", x.way(14, OTHER, 13, 0, 0), LARGE);
        largeForEach("i", i -> x.way(14, SAME, 13, i, 0), -1, 1000, MIN, MAX);
    }

    @Edge(promise = 10, says = "NO: not so many ways")
    static void promise10_NO_notSoManyWays() {
        RlRounds x = saying(20, 21, 22, 21, TYPE, BOTH);
        due("the only one", x.way(22, 21, 20, 0, 0), 6);
        noForEach("i", i -> x.way(22, 21, 20, i, 0), 1, 2, -1, MIN, MIN + 1, MAX);
        noForEach("i, premise", i -> x.way(22, 21, 20, i, 1), 1, 2, -1, MIN, MIN + 1, MAX);
        due("behind the last of many", most().way(13, SAME, 31, 58, 0), NO);
    }

    @Edge(promise = 10, says = "NO: not so many ways")
    static void promise10_NO_noWayAtAll() {
        RlRounds x = saying(20, 21, 22);
        due("SAID alone", x.way(20, 21, 22, 0, 0), NO);
        due("does not hold", x.way(22, 21, 20, 0, 0), NO);
        due("nothing SAID", new RlRounds().way(20, 21, 22, 0, 0), NO);
        RlRounds off = saying(20, 21, 22, 21, TYPE, BOTH);
        due("off", off.rule(6, false), 1);
        due("rule off", off.way(22, 21, 20, 0, 0), NO);
    }

    @Edge(promise = 10, says = "premises.")
    static void promise10_NO_notSoManyPremises() {
        RlRounds one = withRules(saying(20, SAME, 21), 0);
        noForEach("rule 0, what", what -> one.way(21, SAME, 20, 0, what), 2, 3, 4);
        RlRounds two = withRules(saying(20, 21, 22, 21, TYPE, BOTH), 6);
        noForEach("rule 6, what", what -> two.way(22, 21, 20, 0, what), 3, 4);
        RlRounds three = withRules(saying(30, TYPE, FAR, 20, 30, 21, 21, 30, 22), 7);
        noForEach("rule 7, what", what -> three.way(20, 30, 22, 0, what), 4);
    }

    // ---- Promise 11: clashes

    @Edge(promise = 11, says = "How many CLASHES there are.")
    static void promise11_howMany_0WhenNothingIsSaid() {
        due("clashes", new RlRounds().clashes(), 0);
        due("OTHER alone", saying(20, OTHER, 20).clashes(), 0);
        due("full", full().clashes(), 0);
    }

    @Edge(promise = 11, says = "How many CLASHES there are.")
    static void promise11_howMany_oneOfEachKind() {
        due("0", withRules(saying(20, SAME, 21, 20, OTHER, 21)).clashes(), 1);
        due("1", withRules(saying(25, APART, 26, 20, TYPE, 25, 20, TYPE, 26)).clashes(), 1);
        due("2", withRules(saying(25, NEVER, 26, 20, 25, 21, 20, 26, 21)).clashes(), 1);
    }

    @Edge(promise = 11, says = "How many CLASHES there are.")
    static void promise11_howMany_premisesThatAreEqual() {
        due("APART from itself", saying(25, APART, 25, 20, TYPE, 25).clashes(), 1);
        due("NEVER itself", saying(25, NEVER, 25, 20, 25, 21).clashes(), 1);
        due("NEVER NEVER NEVER", withRules(saying(NEVER, NEVER, NEVER)).clashes(), 1);
    }

    @Edge(promise = 11, says = "How many CLASHES there are.")
    static void promise11_howMany_oneDirectionIsNotTheOther() {
        due("OTHER turned", withRules(saying(20, SAME, 21, 21, OTHER, 20)).clashes(), 0);
        due("SAME gives it", saying(20, SAME, 21, 21, OTHER, 20).clashes(), 4);
        due("NEVER turned", withRules(saying(25, NEVER, 26, 20, 25, 21, 21, 26, 20)).clashes(), 0);
    }

    @Edge(promise = 11, says = "How many CLASHES there are.")
    static void promise11_howMany_rulesMatterOnlyForWhatHolds() {
        RlRounds x = saying(25, APART, 26, 20, TYPE, 25, 25, BELOW, 26);
        due("by rule 12", x.clashes(), 1);
        due("off", x.rule(12, false), 1);
        due("none", x.clashes(), 0);
        due("say", x.say(20, TYPE, 26), 1);
        due("SAID", x.clashes(), 1);
    }

    /** Ten classes that are all the same and APART, ten that are of each: 400 hold, 1000 clash. */
    private static RlRounds clashing() {
        RlRounds x = new RlRounds();
        for (int i = 0; i < 9; i++) {
            sayAll(x, 20 + i, SAME, 21 + i, 10 + i, SAME, 11 + i);
        }
        sayAll(x, 20, APART, 20, 10, TYPE, 20);
        return x;
    }

    @Edge(promise = 11, says = "How many CLASHES there are.")
    static void promise11_howMany_moreThanTriples() {
        RlRounds x = clashing();
        due("size", x.size(), 400);
        due("clashes", x.clashes(), 1000);
    }

    @Edge(promise = 11, says = "LARGE.")
    static void promise11_LARGE_at401NotAt400() {
        RlRounds x = clashing();
        due("400", x.clashes(), 1000);
        due("one more", x.say(31, 31, 31), 1);
        due("401", x.clashes(), LARGE);
        due("without a clash", large().clashes(), LARGE);
        due("400 without a clash", most().clashes(), 0);
    }

    // ---- Promise 12: clash

    @Edge(promise = 12, says = "Of the i-th CLASH: its kind (what = 0)")
    static void promise12_kind_theFirstAndTheLastKind() {
        RlRounds x = withRules(mixed(), 12);
        due("how many", x.clashes(), 3);
        due("0", x.clash(0, 0), 0);
        due("1", x.clash(1, 0), 1);
        due("2", x.clash(2, 0), 2);
    }

    @Edge(promise = 12, says = "Of the i-th CLASH: its kind (what = 0)")
    static void promise12_kind_theFirstAndTheLastOf1000() {
        RlRounds x = clashing();
        due("kind of the first", x.clash(0, 0), 1);
        due("kind of the last", x.clash(999, 0), 1);
        due("none behind", x.clash(1000, 0), NO);
        due("premise of the first", x.clash(0, 1), code(20, APART, 20));
        due("premise 1 of the last", x.clash(999, 1), code(29, APART, 29));
        due("premise 2 of the last", x.clash(999, 2), code(19, TYPE, 29));
        due("premise 3 of the 16th", x.clash(15, 3), code(15, TYPE, 21));
    }

    @Edge(promise = 12, says = "the code of a premise (1 .. 3)")
    static void promise12_premise_ofEachKind() {
        RlRounds x = withRules(mixed(), 12);
        dueText("premises", clashesOf(x),
                row(0, code(20, SAME, 21), code(20, OTHER, 21), NO)
                        + row(1, code(25, APART, 26), code(24, TYPE, 25), code(24, TYPE, 26))
                        + row(2, code(29, NEVER, 31), code(22, 29, 23), code(22, 31, 23)));
    }

    @Edge(promise = 12, says = "the code of a premise (1 .. 3)")
    static void promise12_premise_leastAndGreatestCode() {
        RlRounds least = withRules(saying(0, APART, 1, 0, 0, 0, 0, 0, 1));
        due("code 0", least.clash(0, 2), 0);
        RlRounds greatest = withRules(saying(31, NEVER, 31, 31, 31, 31));
        due("code 32767", greatest.clash(0, 3), 32767);
    }

    @Edge(promise = 12, says = "BAD: what is none")
    static void promise12_BAD_whatIsNone() {
        RlRounds x = mixed();
        for (int none : new int[] {-1, 4, 5, 32, -3, MIN, MAX}) {
            due("what " + none, x.clash(1, none), BAD);
        }
        due("what 0 is one", x.clash(0, 0), 0);
        due("what 3 is one", x.clash(0, 3), NO);
    }

    @Edge(promise = 12, says = "BAD: what is none")
    static void promise12_BAD_beforeLARGEAndNO() {
        due("without a clash", new RlRounds().clash(0, 4), BAD);
        due("i below", mixed().clash(-1, -1), BAD);
        RlRounds x = large();
        due("LARGE, 4", x.clash(0, 4), BAD);
        due("LARGE, -1", x.clash(-1, -1), BAD);
    }

    @Edge(promise = 12, says = "LARGE")
    static void promise12_LARGE_beforeNO() {
        RlRounds x = large();
        due("kind", x.clash(0, 0), LARGE);
        due("premise", x.clash(0, 3), LARGE);
        largeForEach("i", i -> x.clash(i, 0), -1, 1000, MIN, MAX);
    }

    @Edge(promise = 12, says = "NO.")
    static void promise12_NO_notSoMany() {
        RlRounds x = withRules(mixed(), 12);
        due("the last", x.clash(2, 0), 2);
        noForEach("i", i -> x.clash(i, 0), 3, 4, -1, MIN, MIN + 1, MAX);
        noForEach("i, premise", i -> x.clash(i, 1), 3, 4, -1, MIN, MIN + 1, MAX);
        due("nothing SAID", new RlRounds().clash(0, 0), NO);
    }

    @Edge(promise = 12, says = "NO.")
    static void promise12_NO_kind0HasNoThirdPremise() {
        RlRounds x = withRules(mixed(), 12);
        due("kind 1 before", x.clash(1, 3), code(24, TYPE, 26));
        due("kind 0", x.clash(0, 3), NO);
        due("its second", x.clash(0, 2), code(20, OTHER, 21));
    }

    // ---- Promise 13: group

    @Edge(promise = 13, says = "The least term of one and of all that it is SAME as.")
    static void promise13_least_itselfWhenItIsSameAsNone() {
        RlRounds x = full();
        for (int term = 0; term <= 31; term++) {
            due("group " + term, x.group(term), term);
        }
    }

    @Edge(promise = 13, says = "The least term of one and of all that it is SAME as.")
    static void promise13_least_itselfWhenAllOthersAreGreater() {
        RlRounds x = saying(20, SAME, 31);
        due("20", x.group(20), 20);
        due("31", x.group(31), 20);
        due("SAME as itself alone", saying(25, SAME, 25).group(25), 25);
    }

    @Edge(promise = 13, says = "The least term of one and of all that it is SAME as.")
    static void promise13_least_term0AndTerm31() {
        RlRounds x = saying(31, SAME, 0);
        due("31", x.group(31), 0);
        due("0", x.group(0), 0);
        due("30", x.group(30), 30);
    }

    @Edge(promise = 13, says = "The least term of one and of all that it is SAME as.")
    static void promise13_least_groupsStayApart() {
        RlRounds x = saying(20, SAME, 22, 22, SAME, 24, 21, SAME, 23, 25, SAME, 23);
        for (int term = 20; term <= 25; term++) {
            due("group " + term, x.group(term), 20 + term % 2);
        }
        due("26", x.group(26), 26);
    }

    @Edge(promise = 13, says = "The least term of one and of all that it is SAME as.")
    static void promise13_least_asFarAsRulesThatAreOnTell() {
        RlRounds x = withRules(saying(28, SAME, 26, 26, SAME, 24, 30, SAME, 28, 20, SAME, 24));
        due("what it is SAME as", x.group(28), 26);
        due("not what that is SAME as", x.group(30), 28);
        due("not what is SAME as it", x.group(24), 24);
        due("on", x.rule(1, true), 1);
        due("by rule 1", x.group(30), 24);
        due("still not turned", x.group(24), 24);
        due("on", x.rule(0, true), 1);
        due("by rules 0 and 1", x.group(24), 20);
    }

    @Edge(promise = 13, says = "BAD")
    static void promise13_BAD_aTermThatIsNone() {
        RlRounds x = saying(20, SAME, 0);
        badForNoTerm("term", x::group);
    }

    @Edge(promise = 13, says = "BAD")
    static void promise13_BAD_beforeLARGE() {
        RlRounds x = large();
        badForNoTerm("term", x::group);
    }

    @Edge(promise = 13, says = "LARGE.")
    static void promise13_LARGE_forEachTerm() {
        RlRounds x = large();
        for (int term = 0; term <= 31; term++) {
            due("group " + term, x.group(term), LARGE);
        }
        due("400", most().group(31), 13);
    }

    // ---- Promise 14: said

    @Edge(promise = 14, says = "How many triples are SAID.")
    static void promise14_howMany_from0To120() {
        RlRounds x = new RlRounds();
        due("none", x.said(), 0);
        for (int i = 0; i < 120; i++) {
            due("say", x.say(i / 13, 31, i % 13), 1);
            due("said", x.said(), i + 1);
        }
    }

    @Edge(promise = 14, says = "How many triples are SAID.")
    static void promise14_howMany_whatFollowsIsNotSaid() {
        RlRounds x = most();
        due("size", x.size(), 400);
        due("said", x.said(), 57);
    }

    @Edge(promise = 14, says = "How many triples are SAID.")
    static void promise14_howMany_alsoWhenTooLarge() {
        RlRounds x = large();
        due("before", x.said(), 58);
        due("LARGE", x.size(), LARGE);
        due("after", x.said(), 58);
        due("large and full", clique(102).said(), 120);
    }

    @Edge(promise = 14, says = "How many triples are SAID.")
    static void promise14_howMany_refusedCallsDoNotCount() {
        RlRounds x = full();
        due("FULL", x.say(30, 30, 30), FULL);
        due("0", x.say(0, 31, 0), 0);
        due("BAD", x.say(32, 31, 0), BAD);
        due("not SAID", x.unsay(30, 30, 30), 0);
        due("BAD", x.unsay(-1, 31, 0), BAD);
        due("off", x.rule(0, false), 1);
        due("said", x.said(), 120);
    }
}

import java.util.ArrayList;
import java.util.HashMap;
import java.util.List;
import java.util.Map;
import java.util.Random;
import java.util.TreeMap;
import java.util.TreeSet;

/**
 * Long runs of calls against a second program that reads the rules as the document writes them and
 * tries every instance in every round. The seeds are fixed, so every run is the same.
 */
public final class OracleTest {
    private static final String[] MEANINGS = {
        "TYPE", "BELOW", "UNDER", "FROM", "TO", "TURNED", "SAME", "OTHER", "APART", "BY", "SOME",
        "ALL", "HAS", "FIRST", "THEN", "FAR", "BOTH", "ONE", "ONCE", "NEVER"
    };
    private static final String[] RULES = {
        "x SAME y: y SAME x", "x SAME y, y SAME z: x SAME z", "x SAME y, x P z: y P z",
        "x SAME y, z P x: z P y", "P FROM C, x P y: x TYPE C", "P TO C, x P y: y TYPE C",
        "P TYPE BOTH, x P y: y P x", "P TYPE FAR, x P y, y P z: x P z", "P TURNED Q, x P y: y Q x",
        "P TURNED Q, x Q y: y P x", "P UNDER Q, x P y: x Q y", "P UNDER Q, Q UNDER R: P UNDER R",
        "C BELOW D, x TYPE C: x TYPE D", "C BELOW D, D BELOW E: C BELOW E",
        "P TYPE ONE, x P y, x P z: y SAME z", "P TYPE ONCE, x P z, y P z: x SAME y",
        "C SOME D, C BY P, x P y, y TYPE D: x TYPE C", "C ALL D, C BY P, x TYPE C, x P y: y TYPE D",
        "C HAS v, C BY P, x TYPE C: x P v", "C HAS v, C BY P, x P v: x TYPE C",
        "P FIRST Q, P THEN R, x Q y, y R z: x P z"
    };
    private static final String[] KINDS = {
        "x SAME y, x OTHER y", "C APART D, x TYPE C, x TYPE D", "P NEVER Q, x P y, x Q y"
    };
    private static final int RUNS = 600;
    private static final int CALLS = 512;

    private static int wrong = 0;
    private static int larges = 0;
    private static int waysSeen = 0;
    private static int clashesSeen = 0;
    private static int mostHeld = 0;
    private static int mostRounds = 0;

    /** The program again, in the plainest way. */
    private static final class Oracle {
        final TreeSet<Integer> said = new TreeSet<>();
        final boolean[] on = new boolean[RULES.length];
        TreeMap<Integer, Integer> held;
        int last;
        boolean large;
        Map<Integer, List<int[]>> ways;
        List<int[]> clashes;

        Oracle() {
            java.util.Arrays.fill(on, true);
        }

        void derive() {
            if (held != null) {
                return;
            }
            held = new TreeMap<>();
            ways = new HashMap<>();
            clashes = new ArrayList<>();
            large = false;
            last = 0;
            for (int code : said) {
                held.put(code, 0);
            }
            for (int round = 1; ; round++) {
                TreeSet<Integer> fresh = new TreeSet<>();
                ways.clear();
                for (int rule = 0; rule < RULES.length; rule++) {
                    if (on[rule]) {
                        String[] halves = RULES[rule].split(": ");
                        instances(rule, halves[0].split(", "), halves[1], fresh);
                    }
                }
                if (fresh.isEmpty()) {
                    break;
                }
                for (int code : fresh) {
                    held.put(code, round);
                }
                last = round;
                if (held.size() > 400) {
                    large = true;
                    return;
                }
            }
            for (int kind = 0; kind < KINDS.length; kind++) {
                instances(kind, KINDS[kind].split(", "), null, null);
            }
        }

        private void instances(int row, String[] premises, String gives, TreeSet<Integer> fresh) {
            int[] found = new int[premises.length + 1];
            found[0] = row;
            String[][] words = new String[premises.length][];
            for (int k = 0; k < premises.length; k++) {
                words[k] = premises[k].split(" ");
            }
            join(words, 0, new HashMap<>(), found, gives == null ? null : gives.split(" "), fresh);
        }

        private void join(String[][] words, int k, Map<String, Integer> letters, int[] found,
                String[] gives, TreeSet<Integer> fresh) {
            if (k == words.length) {
                if (gives == null) {
                    clashes.add(found.clone());
                    return;
                }
                int code = 1024 * value(gives[0], letters) + 32 * value(gives[1], letters)
                        + value(gives[2], letters);
                ways.computeIfAbsent(code, c -> new ArrayList<>()).add(found.clone());
                if (!held.containsKey(code)) {
                    fresh.add(code);
                }
                return;
            }
            for (int code : held.keySet()) {
                int[] terms = {code >> 10, code >> 5 & 31, code & 31};
                Map<String, Integer> more = null;
                boolean fits = true;
                for (int part = 0; part < 3 && fits; part++) {
                    Integer known = (more == null ? letters : more).get(words[k][part]);
                    int meaning = meaning(words[k][part]);
                    if (meaning >= 0) {
                        fits = meaning == terms[part];
                    } else if (known != null) {
                        fits = known == terms[part];
                    } else {
                        if (more == null) {
                            more = new HashMap<>(letters);
                        }
                        more.put(words[k][part], terms[part]);
                    }
                }
                if (fits) {
                    found[k + 1] = code;
                    join(words, k + 1, more == null ? letters : more, found, gives, fresh);
                }
            }
        }

        private static int meaning(String word) {
            if (word.length() < 2) {
                return -1;
            }
            for (int i = 0; i < MEANINGS.length; i++) {
                if (MEANINGS[i].equals(word)) {
                    return i;
                }
            }
            return -1;
        }

        private static int value(String word, Map<String, Integer> letters) {
            int meaning = meaning(word);
            return meaning >= 0 ? meaning : letters.get(word);
        }

        static boolean bad(int... terms) {
            for (int term : terms) {
                if (term < 0 || term > 31) {
                    return true;
                }
            }
            return false;
        }

        int say(int code) {
            if (said.contains(code)) {
                return 0;
            }
            if (said.size() == 120) {
                return RlRounds.FULL;
            }
            said.add(code);
            held = null;
            return 1;
        }

        int unsay(int code) {
            if (!said.remove(code)) {
                return 0;
            }
            held = null;
            return 1;
        }

        int rule(int rule, boolean now) {
            if (rule < 0 || rule > 20) {
                return RlRounds.BAD;
            }
            if (on[rule] == now) {
                return 0;
            }
            on[rule] = now;
            held = null;
            return 1;
        }

        List<int[]> waysTo(int code) {
            return ways.getOrDefault(code, List.of());
        }

        static int of(List<int[]> rows, int i, int what) {
            return i < 0 || i >= rows.size() || what >= rows.get(i).length ? RlRounds.NO : rows.get(i)[what];
        }

        int group(int term) {
            int least = term;
            for (int other = 31; other >= 0; other--) {
                if (other < least && held.containsKey(1024 * term + 32 * 6 + other)) {
                    least = other;
                }
            }
            return least;
        }
    }

    /** What kind of run it is: how many terms it uses, and which predicates. */
    private static final class Style {
        final Random random;
        final int low;
        final int ends;
        final boolean wild;
        final boolean eager;

        Style(Random random, int run) {
            this.random = random;
            this.ends = 2 + random.nextInt(run % 3 == 0 ? 10 : 5);
            this.low = 32 - ends;
            this.wild = run % 5 == 0;
            this.eager = run % 4 == 1;
        }

        int end() {
            return wild && random.nextInt(4) == 0 ? random.nextInt(32) : low + random.nextInt(ends);
        }

        int middle() {
            return random.nextInt(3) == 0 ? end() : random.nextInt(20);
        }

        int[] triple() {
            int s = end();
            int p = middle();
            int o = end();
            if (p == 0 && random.nextInt(2) == 0) {
                o = 15 + random.nextInt(4);
            }
            return new int[] {s, p, o};
        }

        int spoil(int term) {
            return random.nextInt(150) == 0 ? (random.nextBoolean() ? 32 : -1) : term;
        }
    }

    private static void due(String call, int got, int want) {
        if (got != want) {
            wrong++;
            if (wrong <= 20) {
                System.out.println(call + " answered " + got + ", due is " + want);
            }
        }
    }

    private static int heldOrOther(Style style, Oracle oracle) {
        int[] t = style.triple();
        if (!oracle.large && !oracle.held.isEmpty() && style.random.nextInt(8) != 0) {
            List<Integer> codes = new ArrayList<>(oracle.held.keySet());
            return codes.get(style.random.nextInt(codes.size()));
        }
        return 1024 * t[0] + 32 * t[1] + t[2];
    }

    private static void change(String at, Style style, RlRounds x, Oracle oracle) {
        Random random = style.random;
        int pick = random.nextInt(style.eager ? 24 : 12);
        int[] t = style.triple();
        if (pick == 0) {
            int rule = random.nextInt(23) - 1;
            boolean on = random.nextInt(3) != 0;
            due(at + "rule(" + rule + ", " + on + ")", x.rule(rule, on), oracle.rule(rule, on));
            return;
        }
        if (pick <= 3 && !oracle.said.isEmpty()) {
            List<Integer> codes = new ArrayList<>(oracle.said);
            int code = codes.get(random.nextInt(codes.size()));
            t = new int[] {code >> 10, code >> 5 & 31, code & 31};
        }
        int s = style.spoil(t[0]);
        int p = style.spoil(t[1]);
        int o = style.spoil(t[2]);
        String call = "say(" + s + ", " + p + ", " + o + ")";
        int code = 1024 * s + 32 * p + o;
        boolean bad = Oracle.bad(s, p, o);
        if (pick == 1 || pick == 2) {
            due(at + "un" + call, x.unsay(s, p, o), bad ? RlRounds.BAD : oracle.unsay(code));
        } else {
            due(at + call, x.say(s, p, o), bad ? RlRounds.BAD : oracle.say(code));
        }
    }

    private static void ask(String at, Style style, RlRounds x, Oracle oracle) {
        Random random = style.random;
        oracle.derive();
        boolean large = oracle.large;
        larges += large ? 1 : 0;
        mostRounds = Math.max(mostRounds, large ? 0 : oracle.last);
        mostHeld = Math.max(mostHeld, large ? 0 : oracle.held.size());
        int code = heldOrOther(style, oracle);
        int s = style.spoil(code >> 10);
        int p = style.spoil(code >> 5 & 31);
        int o = style.spoil(code & 31);
        boolean bad = Oracle.bad(s, p, o);
        String terms = "(" + s + ", " + p + ", " + o + ")";
        switch (random.nextInt(11)) {
            case 0 -> due(at + "run()", x.run(), large ? RlRounds.LARGE : oracle.last);
            case 1 -> due(at + "size()", x.size(), large ? RlRounds.LARGE : oracle.held.size());
            case 2 -> {
                int i = random.nextInt((large ? 400 : oracle.held.size()) + 2) - 1;
                int want = i < 0 || large || i >= oracle.held.size() ? RlRounds.NO
                        : new ArrayList<>(oracle.held.keySet()).get(i);
                due(at + "triple(" + i + ")", x.triple(i), large ? RlRounds.LARGE : want);
            }
            case 3 -> due(at + "round" + terms, x.round(s, p, o), bad ? RlRounds.BAD
                    : large ? RlRounds.LARGE : oracle.held.getOrDefault(code, RlRounds.NO));
            case 4 -> {
                int want = large ? 0 : oracle.waysTo(code).size();
                waysSeen += want;
                due(at + "ways" + terms, x.ways(s, p, o), bad ? RlRounds.BAD : large ? RlRounds.LARGE : want);
            }
            case 5, 6 -> {
                List<int[]> rows = large ? List.of() : oracle.waysTo(code);
                int i = random.nextInt(rows.size() + 2) - 1;
                int what = random.nextInt(7) - 1;
                due(at + "way" + terms + " " + i + ", " + what, x.way(s, p, o, i, what),
                        bad || what < 0 || what > 4 ? RlRounds.BAD
                                : large ? RlRounds.LARGE : Oracle.of(rows, i, what));
            }
            case 7 -> {
                int want = large ? RlRounds.LARGE : oracle.clashes.size();
                clashesSeen += Math.max(0, want);
                due(at + "clashes()", x.clashes(), want);
            }
            case 8 -> {
                List<int[]> rows = oracle.clashes;
                int i = random.nextInt(rows.size() + 2) - 1;
                int what = random.nextInt(6) - 1;
                due(at + "clash(" + i + ", " + what + ")", x.clash(i, what),
                        what < 0 || what > 3 ? RlRounds.BAD
                                : large ? RlRounds.LARGE : Oracle.of(rows, i, what));
            }
            case 9 -> {
                int term = style.spoil(style.end());
                due(at + "group(" + term + ")", x.group(term),
                        Oracle.bad(term) ? RlRounds.BAD : large ? RlRounds.LARGE : oracle.group(term));
            }
            default -> due(at + "said()", x.said(), oracle.said.size());
        }
    }

    /** Objects in the oracle's state: a new one whenever 512 calls are used up. */
    private static final class Fresh {
        final Oracle oracle;
        RlRounds x;
        int left;

        Fresh(Oracle oracle) {
            this.oracle = oracle;
        }

        RlRounds next() {
            if (left == 0) {
                x = new RlRounds();
                for (int rule = 0; rule < RULES.length; rule++) {
                    x.rule(rule, oracle.on[rule]);
                }
                for (int code : oracle.said) {
                    x.say(code >> 10, code >> 5 & 31, code & 31);
                }
                left = CALLS - RULES.length - oracle.said.size();
            }
            left--;
            return x;
        }
    }

    /** Every answer that can be asked for in the state that a run ends in. */
    private static void askAll(String at, Oracle oracle) {
        oracle.derive();
        Fresh fresh = new Fresh(oracle);
        if (oracle.large) {
            due(at + "size()", fresh.next().size(), RlRounds.LARGE);
            return;
        }
        int place = 0;
        for (int code : oracle.held.keySet()) {
            due(at + "triple(" + place + ")", fresh.next().triple(place), code);
            place++;
            int s = code >> 10;
            int p = code >> 5 & 31;
            int o = code & 31;
            due(at + "round of " + code, fresh.next().round(s, p, o), oracle.held.get(code));
            List<int[]> rows = oracle.waysTo(code);
            due(at + "ways of " + code, fresh.next().ways(s, p, o), rows.size());
            for (int i = 0; i < rows.size(); i += 1 + rows.size() / 20) {
                for (int what = 0; what <= 4; what++) {
                    due(at + "way of " + code, fresh.next().way(s, p, o, i, what), Oracle.of(rows, i, what));
                }
            }
        }
        for (int i = 0; i < oracle.clashes.size(); i++) {
            for (int what = 0; what <= 3; what++) {
                due(at + "clash " + i, fresh.next().clash(i, what), Oracle.of(oracle.clashes, i, what));
            }
        }
    }

    public static void main(String[] args) {
        for (int run = 0; run < RUNS; run++) {
            Random random = new Random(1000 + run);
            Style style = new Style(random, run);
            RlRounds x = new RlRounds();
            Oracle oracle = new Oracle();
            int changes = 3 + random.nextInt(style.eager ? 30 : 15);
            for (int call = 0; call < CALLS; call++) {
                String at = "run " + run + ", call " + call + ": ";
                if (call < changes || random.nextInt(20) == 0) {
                    change(at, style, x, oracle);
                } else {
                    ask(at, style, x, oracle);
                }
            }
            askAll("run " + run + ", at its end: ", oracle);
        }
        System.out.println("answers in a LARGE state " + larges + ", ways " + waysSeen + ", clashes "
                + clashesSeen + ", most triples " + mostHeld + ", most rounds " + mostRounds);
        System.out.println(wrong == 0 ? "all answers are as due" : wrong + " answers are not as due");
        if (wrong != 0) {
            System.exit(1);
        }
    }
}

import java.util.Random;

/** Runs of 512 calls made by a fixed seed, wild arguments among them: each answer is held against the Model. */
public final class RunsTest {
    private static final int RUNS = 400;
    private static final int CALLS = 512;
    private static final int TEXTS = 20000;
    private static final int PLANS = 3000;
    private static final int LONG_PLANS = 150;
    private static final int METHODS = 28;
    private static final String[] VALUES = {"fault", "kind", "pay", "odds", "minutes", "left", "found", "tries", "earned"};
    private static final int[] WILD = {-1, -2, 0, 7, 8, 10, 24, 100, 999, 1000, 10000, Integer.MIN_VALUE, Integer.MAX_VALUE};

    private final Check check;
    private final Random random;
    private final PaidMistakes x = new PaidMistakes();
    private final Model model = new Model();

    private RunsTest(Check check, int seed) {
        this.check = check;
        this.random = new Random(seed);
    }

    public static void main(String[] args) {
        Check check = new Check();
        for (int run = 0; run < RUNS && !check.anyWrong(); run++) {
            new RunsTest(check, run).go(run);
        }
        for (int run = 0; run < TEXTS && !check.anyWrong(); run++) {
            new RunsTest(check, -1 - run).texts(run);
        }
        for (int run = 0; run < PLANS && !check.anyWrong(); run++) {
            new RunsTest(check, run).plans(run);
            new RunsTest(check, run).games(run);
        }
        for (int run = 0; run < LONG_PLANS && !check.anyWrong(); run++) {
            new RunsTest(check, run).longPlans(run);
        }
        check.close("RunsTest");
    }

    /** Works of little time and cheap mending, where a master often does well to mend. */
    private void plans(int run) {
        StringBuilder text = new StringBuilder("time ").append(1 + below(5));
        for (int k = 0; k < 4; k++) {
            text.append(";kind ").append(below(8)).append(' ').append(below(4) == 0 ? 40 : below(3)).append(' ').append(below(2));
        }
        for (int f = 0; f < 8; f++) {
            text.append(";fault ").append(below(4)).append(' ').append(1 + below(2)).append(' ').append(below(3) == 0 ? 50 : 100);
            if (f > 0 && below(2) == 0) {
                text.append(" under ").append(below(f));
            }
        }
        tell(run, true, text.toString());
        for (int n = 0; n < 4; n++) {
            for (int part = 0; part < 3; part++) {
                due(run, "master " + n + " " + part + " of " + text, x.master(n, part), model.master(n, part));
                due(run, "best " + n + " " + part + " of " + text, x.best(n, part), model.best(n, part));
                due(run, "fits " + n * 4 + " " + part + " of " + text, x.fits(n * 4, part), model.fits(n * 4, part));
            }
            due(run, "look " + n, x.look(n), model.look(n));
            due(run, "mend " + 2 * n, x.mend(2 * n), model.mend(2 * n));
        }
    }

    /** LOOKS of all lengths in more or less time, so that it matters at each step what is left. */
    private void longPlans(int run) {
        StringBuilder text = new StringBuilder("time ").append(1 + below(run % 2 == 0 ? 480 : 150));
        for (int k = 0; k < 3; k++) {
            text.append(";kind ").append(below(100)).append(' ').append(below(100)).append(' ').append(below(20));
        }
        for (int f = 0; f < 6; f++) {
            text.append(";fault ").append(below(3)).append(' ').append(1 + below(99)).append(' ').append(below(101));
            if (f > 0 && below(3) == 0) {
                text.append(" under ").append(below(f));
            }
        }
        tell(run, true, text.toString());
        for (int turn = 0; turn < 3; turn++) {
            for (int n = 0; n <= 5; n++) {
                for (int part = 0; part < 3; part++) {
                    due(run, "best " + n + " " + part + " of " + text, x.best(n, part), model.best(n, part));
                }
                due(run, "master " + n + " of " + text, x.master(n, 0), model.master(n, 0));
                due(run, "set of " + n + " of " + text, x.master(n, 2), model.master(n, 2));
            }
            int fault = below(6);
            due(run, "look " + fault, x.look(fault), model.look(fault));
            due(run, "mend " + turn, x.mend(turn), model.mend(turn));
        }
    }

    private void games(int run) {
        int most = below(2) == 0 ? 99 : 3;
        StringBuilder numbers = new StringBuilder();
        for (int place = 0; place < 8; place++) {
            int n = below(2 * most + 1) - most;
            numbers.append(' ').append(n);
            due(run, "game", x.game(place, n), model.game(place, n));
        }
        due(run, "rests of" + numbers, x.rests(), model.rests());
        for (int i = 0; i < 4; i++) {
            due(run, "mixed of" + numbers, x.mixed(i / 2, i % 2), model.mixed(i / 2, i % 2));
        }
    }

    /** Texts alone, on new objects: a run's RULES are soon all there. */
    private void texts(int run) {
        tell(run, true, spoilt(spoilt(work())));
        tell(run, false, spoilt(spoilt(rule())));
        call(run, 8);
        call(run, 24);
    }

    private void go(int run) {
        int calls = 0;
        if (run % 20 != 0) {
            calls += tell(run, true, work());
            calls += tell(run, false, rule());
        }
        while (calls + 30 < CALLS) {
            int turn = random.nextInt(40);
            if (turn == 0) {
                calls += tell(run, true, spoilt(work()));
            } else if (turn <= 2) {
                calls += tell(run, false, spoilt(rule()));
            } else {
                call(run, random.nextInt(METHODS));
                calls++;
            }
        }
    }

    private int below(int n) {
        return random.nextInt(n);
    }

    /** Mostly a number from least to most, at times one just outside, at times a wild one. */
    private int pick(int least, int most) {
        int turn = below(30);
        if (turn == 0) {
            return WILD[below(WILD.length)];
        }
        return turn == 1 ? least - 1 : turn == 2 ? most + 1 : least + below(most - least + 1);
    }

    private void due(int run, String call, long got, long want) {
        check.due("run " + run + ": " + call, got, want);
    }

    private void call(int run, int method) {
        int f = pick(-1, below(4) == 0 ? 9 : 4);
        switch (method) {
            case 0: { int k = pick(0, 3); int w = pick(0, 2); due(run, "kind " + k + " " + w, x.kind(k, w), model.kind(k, w)); break; }
            case 1: { int w = pick(0, 6); due(run, "fault " + f + " " + w, x.fault(f, w), model.fault(f, w)); break; }
            case 2: case 3: case 4: due(run, "look " + f, x.look(f), model.look(f)); break;
            case 5: { int c = pick(0, 999); due(run, "fine " + c, x.fine(c), model.fine(c)); break; }
            case 6: { if (below(3) == 0) { due(run, "mend " + f, x.mend(f), model.mend(f)); } break; }
            case 7: due(run, "dawn", x.dawn(), model.dawn()); break;
            case 8: { int r = pick(0, 3); due(run, "day " + r, x.day(r), model.day(r)); break; }
            case 9: { int r = pick(0, 3); int w = pick(0, 4); due(run, "would " + r + " " + w, x.would(r, w), model.would(r, w)); break; }
            case 10: case 11: case 12: due(run, "row " + f, x.row(f), model.row(f)); break;
            case 13: { int p = pick(0, 1); due(run, "worth " + p, x.worth(p), model.worth(p)); break; }
            case 14: { int p = pick(0, 1); due(run, "seen " + f + " " + p, x.seen(f, p), model.seen(f, p)); break; }
            case 15: { int n = pick(0, below(10) == 0 ? 5 : 3); int p = pick(0, 2); due(run, "best " + n + " " + p, x.best(n, p), model.best(n, p)); break; }
            case 16: { int n = pick(0, below(20) == 0 ? 4 : 2); int p = pick(0, 2); due(run, "master " + n + " " + p, x.master(n, p), model.master(n, p)); break; }
            case 17: { int p = pick(0, 7); int n = below(2) == 0 ? pick(-99, 99) : pick(-2, 2); due(run, "game " + p + " " + n, x.game(p, n), model.game(p, n)); break; }
            case 18: due(run, "rests", x.rests(), model.rests()); break;
            case 19: { int w = pick(0, 1); int p = pick(0, 1); due(run, "mixed " + w + " " + p, x.mixed(w, p), model.mixed(w, p)); break; }
            case 20: { int a = pick(0, 9999); int b = pick(0, 9999); due(run, "checks " + a + " " + b, x.checks(a, b), model.checks(a, b)); break; }
            case 21: { int a = pick(0, below(2) == 0 ? 20 : 200); int w = pick(0, 2); due(run, "fits " + a + " " + w, x.fits(a, w), model.fits(a, w)); break; }
            case 22: { int n = pick(0, Integer.MAX_VALUE - 1); due(run, "seed " + n, x.seed(n), model.seed(n)); break; }
            case 23: { int r = pick(0, 3); int m = pick(1, 20); int w = pick(0, 2); due(run, "weeks " + r + " " + m + " " + w, x.weeks(r, m, w), model.weeks(r, m, w)); break; }
            case 24: { int w = pick(0, 10); due(run, "count " + w, x.count(w), model.count(w)); break; }
            case 25: { int w = pick(0, 2); due(run, "coins " + w, x.coins(w), model.coins(w)); break; }
            case 26: { int k = pick(0, 3); due(run, "image " + k, x.image(k), model.image(k)); break; }
            default: { int k = pick(0, 3); due(run, "back " + k, x.back(k), model.back(k)); break; }
        }
    }

    /** Tells a text to both: how many calls it took. */
    private int tell(int run, boolean isWork, String text) {
        int calls = 3;
        int start = below(50) == 0 ? pick(0, 3) : 0;
        due(run, "end " + start, x.end(start), model.end(start));
        for (int i = 0; i < text.length(); i += 20) {
            int a = Check.four(text, i);
            int b = Check.four(text, i + 4);
            int c = Check.four(text, i + 8);
            int d = Check.four(text, i + 12);
            int e = Check.four(text, i + 16);
            due(run, "feed", x.feed(a, b, c, d, e), model.feed(a, b, c, d, e));
            calls++;
        }
        due(run, "end " + text.length(), x.end(text.length()), model.end(text.length()));
        due(run, (isWork ? "work " : "rule ") + text, isWork ? x.work() : x.rule(), isWork ? model.work() : model.rule());
        return calls;
    }

    private String gap() {
        return " ".repeat(below(8) == 0 ? 2 : 1);
    }

    private String work() {
        StringBuilder text = new StringBuilder();
        int kinds = 1 + below(below(6) == 0 ? 6 : 3);
        int faults = 1 + below(below(6) == 0 ? 10 : 5);
        int coins = below(2) == 0 ? 5 : 99;
        if (below(2) == 0) {
            text.append("time ").append(below(2) == 0 ? 1 + below(480) : 1 + below(40)).append(';');
        }
        for (int k = 0; k < kinds; k++) {
            text.append("kind").append(gap()).append(below(coins + 1)).append(gap()).append(below(coins + 1));
            text.append(gap()).append(below(coins + 1)).append(';');
        }
        for (int f = 0; f < faults && text.length() < 370; f++) {
            int odds = below(4) == 0 ? 100 * below(2) : below(101);
            text.append(f == 0 ? "" : ";").append("fault").append(gap()).append(below(kinds)).append(gap());
            text.append(below(3) == 0 ? 1 + below(99) : 1 + below(9)).append(gap()).append(odds);
            if (f > 0 && below(3) == 0 && text.length() < 380) {
                text.append(" under ").append(below(f));
            }
        }
        return text.toString();
    }

    private String rule() {
        StringBuilder text = new StringBuilder();
        int clauses = 1 + below(below(8) == 0 ? 12 : 3);
        for (int c = 0; c < clauses && text.length() < 250; c++) {
            text.append(c == 0 ? "" : ";");
            if (below(3) == 0) {
                text.append("stop ");
                test(text, 0);
            } else {
                text.append("look ");
                sum(text);
                if (below(2) == 0) {
                    text.append(" if ");
                    test(text, 0);
                }
            }
        }
        return text.length() <= 400 ? text.toString() : "look " + VALUES[below(9)];
    }

    private void test(StringBuilder text, int depth) {
        int facts = 1 + below(below(3) == 0 ? 4 : 2);
        for (int i = 0; i < facts; i++) {
            text.append(i == 0 ? "" : below(2) == 0 ? " or " : " and ");
            fact(text, depth);
        }
    }

    private void fact(StringBuilder text, int depth) {
        int turn = text.length() > 250 || depth > 12 ? 9 : below(8);
        if (turn == 0) {
            text.append("not ");
            fact(text, depth + 1);
        } else if (turn == 1) {
            text.append("[");
            test(text, depth + 1);
            text.append("]");
        } else {
            sum(text);
            text.append(new String[] {"<", "<=", "=", ">=", ">"}[below(5)]);
            sum(text);
        }
    }

    private void sum(StringBuilder text) {
        int values = 1 + below(below(3) == 0 ? 5 : 2);
        for (int i = 0; i < values; i++) {
            text.append(i == 0 ? "" : new String[] {"+", " - ", "*", "/"}[below(4)]);
            text.append(below(2) == 0 ? VALUES[below(9)] : String.valueOf(below(5) == 0 ? below(100000) : below(20)));
        }
    }

    /** At times a text with something changed, cut off, put in or doubled. */
    private String spoilt(String text) {
        if (below(3) == 0 || text.isEmpty()) {
            return text;
        }
        String signs = "[];<>=+-*/ 019azf(" + (char) 0 + (char) 255;
        String[] words = {"not ", "if ", "or ", "and ", "[", "not[", "123456", "under ", "time 5;", "kind 1 1 1;", "fault 0 1 1;", "look 1;", "1+"};
        int at = below(text.length());
        String spoilt;
        switch (below(5)) {
            case 0: spoilt = text.substring(0, at); break;
            case 1: spoilt = text.substring(0, at) + signs.charAt(below(signs.length())) + text.substring(at + 1); break;
            case 2: spoilt = text.substring(0, at) + text.substring(at + 1); break;
            case 3: spoilt = text.substring(0, at) + words[below(words.length)].repeat(1 + below(15)) + text.substring(at); break;
            default: spoilt = text + ";" + text;
        }
        return spoilt.length() <= 400 ? spoilt : spoilt.substring(0, 400);
    }
}

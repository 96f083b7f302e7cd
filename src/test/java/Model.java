import java.math.BigInteger;
import java.util.ArrayList;
import java.util.Arrays;
import java.util.HashMap;
import java.util.List;
import java.util.Map;
import java.util.function.Function;
import java.util.function.Predicate;

/**
 * The document once more, written as plainly as the whole Java library allows: texts are read sign by
 * sign, tests are functions, means are fractions. RunsTest holds it against the class. Not a test itself.
 */
final class Model {
    private static final int NO_COINS = -1000000;

    /** A fault of a text. */
    private static final class Wrong extends RuntimeException {
        private static final long serialVersionUID = 1L;
        final int answer;

        Wrong(int place, int what) {
            answer = -2 - (1 + 8 * place + what);
        }
    }

    record Kind(int pay, int hide, int mend) { }

    record Fault(int kind, int minutes, int odds, int under) { }

    record Clause(boolean stop, Function<Seen, Long> sum, Predicate<Seen> test) { }

    /** What a RULE sees of a fault. */
    record Seen(long fault, long kind, long pay, long odds, long minutes, long left, long found, long tries, long earned) { }

    record Ratio(BigInteger above, BigInteger below) {
        static Ratio of(long a, long b) {
            return of(BigInteger.valueOf(a), BigInteger.valueOf(b));
        }

        static Ratio of(BigInteger a, BigInteger b) {
            BigInteger g = a.gcd(b);
            if (b.signum() < 0) {
                g = g.negate();
            }
            return new Ratio(a.divide(g), b.divide(g));
        }

        Ratio plus(Ratio o) {
            return of(above.multiply(o.below).add(o.above.multiply(below)), below.multiply(o.below));
        }

        Ratio times(Ratio o) {
            return of(above.multiply(o.above), below.multiply(o.below));
        }

        int compare(Ratio o) {
            return above.multiply(o.below).compareTo(o.above.multiply(below));
        }

        long part(int part) {
            return (part == 0 ? above : below).longValueExact();
        }
    }

    /** All that an IMAGE keeps, but for lists that never change. */
    private static final class State {
        int time = 0;
        List<Kind> kinds = List.of();
        List<Fault> faults = List.of();
        boolean[] found = new boolean[10];
        boolean[] mended = new boolean[10];
        int[] tries = new int[10];
        int left = 0;
        int earned = 0;
        int master = 0;
        int before = 0;
        int days = 0;
        long x = 0;
        List<Integer> row = new ArrayList<>();
        int[] game = new int[8];

        State twin() {
            State s = new State();
            s.time = time;
            s.kinds = kinds;
            s.faults = faults;
            s.found = found.clone();
            s.mended = mended.clone();
            s.tries = tries.clone();
            s.left = left;
            s.earned = earned;
            s.master = master;
            s.before = before;
            s.days = days;
            s.x = x;
            s.row = new ArrayList<>(row);
            s.game = game.clone();
            return s;
        }

        Kind kindOf(int f) {
            return kinds.get(faults.get(f).kind());
        }

        boolean gone(int f) {
            return found[f] || mended[f];
        }

        boolean open(int f) {
            int over = faults.get(f).under();
            return !gone(f) && (over == -1 || gone(over));
        }

        boolean could(int f) {
            return open(f) && faults.get(f).minutes() <= left;
        }

        void newDay() {
            left = time;
            earned = 0;
            found = new boolean[10];
            tries = new int[10];
        }

        boolean look(int f) {
            left -= faults.get(f).minutes();
            tries[f]++;
            x = (x * 1103515245L + 12345L) % 2147483648L;
            if (x / 65536 % 100 < faults.get(f).odds()) {
                found[f] = true;
                earned += kindOf(f).pay();
                return true;
            }
            return false;
        }

        int hidden() {
            int sum = 0;
            for (int f = 0; f < faults.size(); f++) {
                sum += gone(f) ? 0 : kindOf(f).hide();
            }
            return sum;
        }

        int number(boolean[] set) {
            int n = 0;
            for (boolean b : set) {
                n += b ? 1 : 0;
            }
            return n;
        }

        Seen seen(int f) {
            Fault fault = faults.get(f);
            return new Seen(f, fault.kind(), kindOf(f).pay(), fault.odds(), fault.minutes(), left, number(found), tries[f], earned);
        }
    }

    private final StringBuilder tape = new StringBuilder();
    private final List<List<Clause>> rules = new ArrayList<>();
    private final State[] images = new State[4];
    private State s = new State();

    // ---- texts

    private String text;
    private int pos;
    private int pieces;

    private int sign() {
        while (pos < text.length() && text.charAt(pos) == ' ') {
            pos++;
        }
        return pos < text.length() ? text.charAt(pos) : -1;
    }

    /** The word that begins here; empty if none does. */
    private String word() {
        sign();
        int to = pos;
        while (to < text.length() && text.charAt(to) >= 'a' && text.charAt(to) <= 'z') {
            to++;
        }
        return text.substring(pos, to);
    }

    private boolean takes(String word) {
        boolean there = word().equals(word);
        pos += there ? word.length() : 0;
        return there;
    }

    private Wrong cannotStand() {
        sign();
        return new Wrong(pos, 0);
    }

    private int number(int least, int most) {
        sign();
        int from = pos;
        while (pos < text.length() && text.charAt(pos) >= '0' && text.charAt(pos) <= '9') {
            pos++;
        }
        if (from == pos) {
            throw new Wrong(from, 0);
        }
        if (pos - from > 5) {
            throw new Wrong(from, 1);
        }
        int value = Integer.parseInt(text.substring(from, pos));
        if (value < least || value > most) {
            throw new Wrong(from, 1);
        }
        return value;
    }

    private boolean another() {
        if (sign() == -1) {
            return false;
        }
        if (sign() != ';') {
            throw cannotStand();
        }
        pos++;
        return true;
    }

    private State readWork() {
        State n = new State();
        n.time = 60;
        List<Kind> kinds = new ArrayList<>();
        List<Fault> faults = new ArrayList<>();
        boolean timed = false;
        int clauses = 0;
        do {
            String word = word();
            int first = pos;
            if (!List.of("time", "kind", "fault").contains(word)) {
                throw cannotStand();
            }
            if (clauses == 24 || word.equals("time") && timed || word.equals("kind") && kinds.size() == 6
                || word.equals("fault") && faults.size() == 10) {
                throw new Wrong(first, 4);
            }
            clauses++;
            takes(word);
            if (word.equals("time")) {
                timed = true;
                n.time = number(1, 480);
            } else if (word.equals("kind")) {
                kinds.add(new Kind(number(0, 99), number(0, 99), number(0, 99)));
            } else {
                int kind = number(0, kinds.size() - 1);
                int minutes = number(1, 99);
                int odds = number(0, 100);
                faults.add(new Fault(kind, minutes, odds, takes("under") ? number(0, faults.size() - 1) : -1));
            }
        } while (another());
        if (faults.isEmpty()) {
            throw new Wrong(text.length(), 0);
        }
        n.kinds = kinds;
        n.faults = faults;
        n.left = n.time;
        return n;
    }

    private List<Clause> readRule() {
        List<Clause> clauses = new ArrayList<>();
        pieces = 0;
        do {
            String word = word();
            int first = pos;
            if (!word.equals("look") && !word.equals("stop")) {
                throw cannotStand();
            }
            if (clauses.size() == 12) {
                throw new Wrong(first, 4);
            }
            takes(word);
            if (word.equals("stop")) {
                clauses.add(new Clause(true, null, readTest(0)));
            } else {
                Function<Seen, Long> sum = readSum();
                clauses.add(new Clause(false, sum, takes("if") ? readTest(0) : null));
            }
        } while (another());
        return clauses;
    }

    private Predicate<Seen> readTest(int depth) {
        Predicate<Seen> test = readPart(depth);
        while (takes("or")) {
            test = test.or(readPart(depth));
        }
        return test;
    }

    private Predicate<Seen> readPart(int depth) {
        Predicate<Seen> part = readFact(depth);
        while (takes("and")) {
            part = part.and(readFact(depth));
        }
        return part;
    }

    private Predicate<Seen> readFact(int depth) {
        boolean brackets = sign() == '[';
        if (brackets || word().equals("not")) {
            if (depth == 10) {
                throw new Wrong(pos, 2);
            }
            if (!brackets) {
                takes("not");
                return readFact(depth + 1).negate();
            }
            pos++;
            Predicate<Seen> test = readTest(depth + 1);
            if (sign() != ']') {
                throw cannotStand();
            }
            pos++;
            return test;
        }
        Function<Seen, Long> a = readSum();
        String sign = List.of("<=", ">=", "<", ">", "=", "").stream().filter(t -> {
            sign();
            return text.startsWith(t, pos);
        }).findFirst().get();
        if (sign.isEmpty()) {
            throw cannotStand();
        }
        count();
        pos += sign.length();
        Function<Seen, Long> b = readSum();
        return seen -> {
            int order = Long.compare(a.apply(seen), b.apply(seen));
            return order < 0 && sign.startsWith("<") || order > 0 && sign.startsWith(">") || order == 0 && sign.endsWith("=");
        };
    }

    private void count() {
        if (pieces == 60) {
            throw new Wrong(pos, 3);
        }
        pieces++;
    }

    private Function<Seen, Long> readSum() {
        Function<Seen, Long> sum = readTerm();
        while (sign() == '+' || sign() == '-') {
            boolean minus = sign() == '-';
            pos++;
            Function<Seen, Long> a = sum;
            Function<Seen, Long> b = readTerm();
            sum = seen -> minus ? a.apply(seen) - b.apply(seen) : a.apply(seen) + b.apply(seen);
        }
        return sum;
    }

    private Function<Seen, Long> readTerm() {
        Function<Seen, Long> term = readValue();
        while (sign() == '*' || sign() == '/') {
            boolean over = sign() == '/';
            pos++;
            Function<Seen, Long> a = term;
            Function<Seen, Long> b = readValue();
            term = seen -> !over ? a.apply(seen) * b.apply(seen) : b.apply(seen) == 0 ? 0 : a.apply(seen) / b.apply(seen);
        }
        return term;
    }

    private Function<Seen, Long> readValue() {
        String word = word();
        int first = pos;
        if (word.isEmpty()) {
            long value = number(0, 99999);
            int behind = pos;
            pos = first;
            count();
            pos = behind;
            return seen -> value;
        }
        Function<Seen, Long> value = switch (word) {
            case "fault" -> Seen::fault;
            case "kind" -> Seen::kind;
            case "pay" -> Seen::pay;
            case "odds" -> Seen::odds;
            case "minutes" -> Seen::minutes;
            case "left" -> Seen::left;
            case "found" -> Seen::found;
            case "tries" -> Seen::tries;
            case "earned" -> Seen::earned;
            default -> throw cannotStand();
        };
        count();
        takes(word);
        return value;
    }

    // ---- the face

    int feed(int a, int b, int c, int d, int e) {
        if (tape.length() > 380) {
            return -1;
        }
        for (int four : new int[] {a, b, c, d, e}) {
            tape.append((char) (four >>> 24)).append((char) (four >>> 16 & 255)).append((char) (four >>> 8 & 255)).append((char) (four & 255));
        }
        return tape.length();
    }

    int end(int n) {
        if (n < 0 || n > tape.length()) {
            return -1;
        }
        tape.setLength(n);
        return n;
    }

    int work() {
        text = tape.toString();
        tape.setLength(0);
        pos = 0;
        try {
            State n = readWork();
            n.x = s.x;
            n.game = s.game;
            s = n;
            return n.faults.size();
        } catch (Wrong w) {
            return w.answer;
        }
    }

    int rule() {
        if (rules.size() == 6) {
            return -1;
        }
        text = tape.toString();
        tape.setLength(0);
        pos = 0;
        try {
            rules.add(readRule());
            return rules.size() - 1;
        } catch (Wrong w) {
            return w.answer;
        }
    }

    private boolean none() {
        return s.faults.isEmpty();
    }

    private boolean noFault(int f) {
        return f < 0 || f >= s.faults.size();
    }

    int kind(int k, int what) {
        if (k < 0 || k >= s.kinds.size() || what < 0 || what > 2) {
            return -1;
        }
        Kind kind = s.kinds.get(k);
        return List.of(kind.pay(), kind.hide(), kind.mend()).get(what);
    }

    int fault(int f, int what) {
        if (noFault(f) || what < 0 || what > 6) {
            return -2;
        }
        Fault t = s.faults.get(f);
        return List.of(t.kind(), t.minutes(), t.odds(), t.under(), s.found[f] ? 1 : s.mended[f] ? 2 : 0, s.tries[f], s.open(f) ? 1 : 0).get(what);
    }

    int look(int f) {
        return noFault(f) ? -1 : !s.open(f) ? -2 : !s.could(f) ? -3 : s.look(f) ? 1 : 0;
    }

    int fine(int coins) {
        if (none() || coins < 0 || coins > 999) {
            return NO_COINS;
        }
        s.earned -= coins;
        return s.earned;
    }

    int mend(int f) {
        if (noFault(f) || s.gone(f)) {
            return NO_COINS;
        }
        s.mended[f] = true;
        s.master -= s.kindOf(f).mend();
        return s.master;
    }

    int dawn() {
        if (none()) {
            return NO_COINS;
        }
        s.master += s.hidden();
        s.before += s.earned;
        s.days++;
        s.newDay();
        return s.master;
    }

    private boolean noRule(int rule) {
        return none() || rule < 0 || rule >= rules.size();
    }

    private int play(State t, int rule) {
        List<Clause> clauses = rules.get(rule);
        for (int looks = 0; looks < 200; looks++) {
            int chosen = -1;
            long least = 0;
            for (int f = t.faults.size() - 1; f >= 0; f--) {
                if (t.could(f)) {
                    Seen seen = t.seen(f);
                    for (Clause c : clauses) {
                        if (!c.stop() && (c.test() == null || c.test().test(seen))) {
                            long sum = c.sum().apply(seen);
                            if (chosen == -1 || sum <= least) {
                                chosen = f;
                                least = sum;
                            }
                            break;
                        }
                    }
                }
            }
            if (chosen == -1) {
                return looks;
            }
            Seen seen = t.seen(chosen);
            if (clauses.stream().anyMatch(c -> c.stop() && c.test().test(seen))) {
                return looks;
            }
            t.look(chosen);
        }
        return 200;
    }

    int day(int rule) {
        if (noRule(rule)) {
            return NO_COINS;
        }
        int before = s.earned;
        play(s, rule);
        return s.earned - before;
    }

    int would(int rule, int what) {
        if (noRule(rule) || what < 0 || what > 4) {
            return NO_COINS;
        }
        State t = s.twin();
        int looks = play(t, rule);
        int bits = 0;
        for (int f = 0; f < 10; f++) {
            bits += t.found[f] && !s.found[f] ? 1 << f : 0;
        }
        return List.of(t.earned - s.earned, bits, t.left, t.hidden(), looks).get(what);
    }

    int row(int f) {
        if (f == -1) {
            s.row.clear();
            return 0;
        }
        if (noFault(f) || s.row.size() == 8) {
            return -2;
        }
        s.row.add(f);
        return s.row.size();
    }

    /** The mean of a sum over how the ROW ends. */
    private Ratio rowMean(State t, int place, Function<State, Integer> sum) {
        if (place == t.row.size()) {
            return Ratio.of(sum.apply(t), 1);
        }
        int f = t.row.get(place);
        if (!t.could(f)) {
            return rowMean(t, place + 1, sum);
        }
        int odds = t.faults.get(f).odds();
        return Ratio.of(odds, 100).times(rowMean(after(t, f, true), place + 1, sum))
            .plus(Ratio.of(100 - odds, 100).times(rowMean(after(t, f, false), place + 1, sum)));
    }

    private static State after(State t, int f, boolean found) {
        State n = t.twin();
        n.left -= n.faults.get(f).minutes();
        if (found) {
            n.found[f] = true;
            n.earned += n.kindOf(f).pay();
        }
        return n;
    }

    long worth(int part) {
        return none() || part < 0 || part > 1 ? -1 : rowMean(s, 0, t -> t.earned - s.earned).part(part);
    }

    long seen(int f, int part) {
        return noFault(f) || part < 0 || part > 1 ? -1 : rowMean(s, 0, t -> t.found[f] ? 1 : 0).part(part);
    }

    /** BEST of a state: the mean, the first LOOK (-2: none) and what stays hidden on the mean. */
    record Plan(Ratio mean, int first, Ratio hidden) { }

    private final Map<String, Plan> plans = new HashMap<>();

    private Plan plan(State t, int n) {
        String key = n + Arrays.toString(t.found) + Arrays.toString(t.mended) + t.left;
        Plan known = plans.get(key);
        if (known != null) {
            return known;
        }
        Plan best = new Plan(Ratio.of(0, 1), -2, Ratio.of(t.hidden(), 1));
        for (int f = 0; n > 0 && f < t.faults.size(); f++) {
            if (t.could(f)) {
                Ratio yes = Ratio.of(t.faults.get(f).odds(), 100);
                Ratio no = Ratio.of(100 - t.faults.get(f).odds(), 100);
                Plan found = plan(after(t, f, true), n - 1);
                Plan missed = plan(after(t, f, false), n - 1);
                Ratio mean = yes.times(Ratio.of(t.kindOf(f).pay(), 1).plus(found.mean)).plus(no.times(missed.mean));
                if (mean.compare(best.mean) > 0) {
                    best = new Plan(mean, f, yes.times(found.hidden).plus(no.times(missed.hidden)));
                }
            }
        }
        plans.put(key, best);
        return best;
    }

    long best(int n, int part) {
        if (none() || n < 0 || n > 5 || part < 0 || part > 2) {
            return -1;
        }
        plans.clear();
        Plan plan = plan(s, n);
        return part == 2 ? plan.first : plan.mean.part(part);
    }

    long master(int n, int part) {
        if (none() || n < 0 || n > 4 || part < 0 || part > 2) {
            return -1000000000000L;
        }
        plans.clear();
        List<Integer> free = new ArrayList<>();
        for (int f = 0; f < s.faults.size() && free.size() < 6; f++) {
            if (!s.gone(f)) {
                free.add(f);
            }
        }
        Ratio most = null;
        int bestSet = 0;
        for (int size = 0; size <= free.size(); size++) {
            for (int set = 0; set < 1024; set++) {
                State t = s.twin();
                int cost = 0;
                boolean all = Integer.bitCount(set) == size;
                for (int f = 0; f < 10 && all; f++) {
                    if ((set >> f & 1) == 1) {
                        all = free.contains(f);
                        t.mended[f] = true;
                        cost += all ? s.kindOf(f).mend() : 0;
                    }
                }
                if (all) {
                    Ratio mean = plan(t, n).hidden.plus(Ratio.of(-cost, 1));
                    if (most == null || mean.compare(most) > 0) {
                        most = mean;
                        bestSet = set;
                    }
                }
            }
        }
        return part == 2 ? bestSet : most.part(part);
    }

    int game(int place, int n) {
        if (place < 0 || place > 7 || n < -99 || n > 99) {
            return -1000;
        }
        int was = s.game[place];
        s.game = s.game.clone();
        s.game[place] = n;
        return was;
    }

    int rests() {
        int[] g = s.game;
        return (g[0] >= g[2] && g[4] >= g[5] ? 1 : 0) + (g[1] >= g[3] && g[5] >= g[4] ? 2 : 0)
            + (g[2] >= g[0] && g[6] >= g[7] ? 4 : 0) + (g[3] >= g[1] && g[7] >= g[6] ? 8 : 0);
    }

    /** The one of all fractions that could be whose both plays are alike. */
    int mixed(int what, int part) {
        if (what < 0 || what > 1 || part < 0 || part > 1) {
            return -1;
        }
        if (rests() != 0) {
            return -2;
        }
        int[] g = s.game;
        for (int below = 1; below <= 400; below++) {
            for (int above = 0; above <= below; above++) {
                int rest = below - above;
                int one = what == 0 ? above * g[4] + rest * g[6] : above * g[0] + rest * g[1];
                int other = what == 0 ? above * g[5] + rest * g[7] : above * g[2] + rest * g[3];
                if (one == other) {
                    return part == 0 ? above : below;
                }
            }
        }
        return -9;
    }

    int checks(int gain, int fine) {
        if (gain < 0 || gain > 9999 || fine < 0 || fine > 9999) {
            return -1;
        }
        int least = 100;
        for (int k = 100; k >= 0; k--) {
            least = gain * (100 - k) <= fine * k ? k : least;
        }
        return least;
    }

    int fits(int amount, int what) {
        if (none() || amount < 0 || amount > 9999 || what < 0 || what > 2) {
            return -1;
        }
        List<Integer> sets = new ArrayList<>();
        for (int set = 0; set < 1 << s.faults.size(); set++) {
            int pay = 0;
            int minutes = 0;
            boolean could = true;
            for (int f = 0; f < s.faults.size(); f++) {
                if ((set >> f & 1) == 1) {
                    Fault t = s.faults.get(f);
                    pay += s.kindOf(f).pay();
                    minutes += t.minutes();
                    could &= t.odds() > 0 && !s.mended[f]
                        && (t.under() == -1 || s.mended[t.under()] || (set >> t.under() & 1) == 1);
                }
            }
            if (could && pay == amount && minutes <= s.time) {
                sets.add(set);
            }
        }
        int bits = 0;
        for (int f = 0; f < s.faults.size() && what > 0 && !sets.isEmpty(); f++) {
            int bit = 1 << f;
            boolean told = what == 1 ? sets.stream().allMatch(t -> (t & bit) != 0) : sets.stream().noneMatch(t -> (t & bit) != 0);
            bits += told ? bit : 0;
        }
        return what == 0 ? sets.size() : bits;
    }

    int seed(int x) {
        if (x < 0) {
            return -1;
        }
        int was = (int) s.x;
        s.x = x;
        return was;
    }

    int weeks(int rule, int m, int what) {
        if (noRule(rule) || m < 1 || m > 20 || what < 0 || what > 2) {
            return -1;
        }
        State t = s.twin();
        int sum = 0;
        for (int day = 0; day < 6 * m; day++) {
            t.newDay();
            play(t, rule);
            sum += List.of(t.earned, t.number(t.found), t.hidden()).get(what);
        }
        return sum;
    }

    int count(int what) {
        int[] counts = {s.faults.size(), s.kinds.size(), rules.size(), s.left, s.number(s.found), s.number(s.mended),
            s.row.size(), (int) s.x, tape.length(), s.days, s.time};
        return what < 0 || what > 10 ? -1 : counts[what];
    }

    int coins(int what) {
        return what < 0 || what > 2 ? NO_COINS : List.of(s.earned, s.master, s.before).get(what);
    }

    int image(int k) {
        if (k < 0 || k > 3) {
            return -1;
        }
        images[k] = s.twin();
        return s.days;
    }

    int back(int k) {
        if (k < 0 || k > 3 || images[k] == null) {
            return -1;
        }
        s = images[k].twin();
        return s.days;
    }
}

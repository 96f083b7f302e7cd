import java.util.Arrays;

/**
 * Paid in mistakes: a master hides faults in his work, an apprentice is paid for those he finds.
 * The document DOC.md says what each method promises; the words in capitals are its terms.
 */
public final class PaidMistakes {
    public static final int NONE = -1;

    private static final int NO_COINS = -1000000;
    private static final long NO_MEAN = -1000000000000L;
    private static final int NO_NUMBER = -1000;

    private static final int TAPE_MOST = 400;
    private static final int RULES_MOST = 6;
    private static final int KINDS_MOST = 6;
    private static final int FAULTS_MOST = 10;
    private static final int ROW_MOST = 8;
    private static final int IMAGES_MOST = 4;
    private static final int WORK_CLAUSES = 24;
    private static final int RULE_CLAUSES = 12;
    private static final int DEPTH_MOST = 10;
    private static final int PIECES_MOST = 60;
    private static final int LOOKS_OF_A_DAY = 200;
    private static final int MENDED_AT_ONCE = 6;
    private static final int DAYS_OF_A_WEEK = 6;

    // What a text can have wrong at a place: of one place the least is told.
    private static final int CANNOT_STAND = 0;
    private static final int BAD_NUMBER = 1;
    private static final int TOO_DEEP = 2;
    private static final int PIECE_TOO_MANY = 3;
    private static final int CLAUSE_TOO_MANY = 4;

    // Codes of tokens. A byte that stands for itself has its own number, 0 to 255.
    private static final int LESS_OR_EQUAL = 256;
    private static final int MORE_OR_EQUAL = 257;
    private static final int END = 300;
    private static final int NUMBER = 301;
    private static final int LONG_NUMBER = 302;
    private static final int OTHER_WORD = 303;
    private static final int TIME = 304;
    private static final int UNDER = 305;
    private static final int LOOK = 306;
    private static final int IF = 307;
    private static final int STOP = 308;
    private static final int OR = 309;
    private static final int AND = 310;
    private static final int NOT = 311;
    // From here on the words are VALUES of a SUM.
    private static final int FAULT = 312;
    private static final int KIND = 313;
    private static final int PAY = 314;
    private static final int ODDS = 315;
    private static final int MINUTES = 316;
    private static final int LEFT = 317;
    private static final int FOUND = 318;
    private static final int TRIES = 319;
    private static final int EARNED = 320;

    private final int[] tape;
    private int tapeLength;
    private final Rule[] rules;
    private int ruleCount;
    private int worksTold;
    private final State now;
    private final State[] images;
    private final Day trial;
    private final RuleReader ruleReader;
    private final Player player;
    private final Planner planner;

    public PaidMistakes() {
        tape = new int[TAPE_MOST];
        tapeLength = 0;
        rules = new Rule[RULES_MOST];
        ruleCount = 0;
        worksTold = 0;
        now = new State(new Work(0));
        images = new State[IMAGES_MOST];
        trial = new Day();
        ruleReader = new RuleReader();
        player = new Player();
        planner = new Planner();
    }

    // ---- the TAPE, the WORK, the RULES

    public int feed(int a, int b, int c, int d, int e) {
        if (tapeLength + 20 > TAPE_MOST) {
            return NONE;
        }
        putBytes(a);
        putBytes(b);
        putBytes(c);
        putBytes(d);
        putBytes(e);
        return tapeLength;
    }

    private void putBytes(int four) {
        for (int shift = 24; shift >= 0; shift -= 8) {
            put(tape, tapeLength, (four >>> shift) & 255);
            tapeLength++;
        }
    }

    public int end(int n) {
        if (n < 0 || n > tapeLength) {
            return NONE;
        }
        tapeLength = n;
        return n;
    }

    public int work() {
        Text text = ruleReader.text;
        text.open(tape, tapeLength);
        tapeLength = 0;
        // Each WORK has a number of its own, so that what was reckoned for one is never taken for another.
        Work told = new Work(worksTold + 1);
        told.readFrom(text);
        if (text.fault != 0) {
            return -2 - text.fault;
        }
        worksTold++;
        now.beginWork(told);
        return told.faults;
    }

    public int rule() {
        if (ruleCount < 0 || ruleCount >= rules.length) {
            return NONE;
        }
        Text text = ruleReader.text;
        text.open(tape, tapeLength);
        tapeLength = 0;
        ruleReader.start();
        boolean more = true;
        for (int clause = 0; more && clause <= RULE_CLAUSES; clause++) {
            ruleReader.readClause();
            more = text.anotherClause();
        }
        if (text.fault != 0) {
            return -2 - text.fault;
        }
        rules[ruleCount] = ruleReader.makeRule();
        ruleCount++;
        return ruleCount - 1;
    }

    // ---- what there is

    private boolean hasWork() {
        return now.work.faults > 0;
    }

    private boolean isFault(int fault) {
        return fault >= 0 && fault < now.work.faults;
    }

    public int kind(int kind, int what) {
        Work work = now.work;
        if (kind < 0 || kind >= work.kinds) {
            return NONE;
        }
        switch (what) {
            case 0: return at(work.kindPay, kind);
            case 1: return at(work.kindHide, kind);
            case 2: return at(work.kindMend, kind);
            default: return NONE;
        }
    }

    public int fault(int fault, int what) {
        if (!isFault(fault)) {
            return -2;
        }
        Work work = now.work;
        Day today = now.today;
        switch (what) {
            case 0: return at(work.kindOf, fault);
            case 1: return at(work.minutes, fault);
            case 2: return at(work.odds, fault);
            case 3: return at(work.under, fault);
            case 4: return has(today.found, fault) ? 1 : has(today.mended, fault) ? 2 : 0;
            case 5: return at(today.tries, fault);
            case 6: return work.isOpen(fault, today.gone()) ? 1 : 0;
            default: return -2;
        }
    }

    public int count(int what) {
        switch (what) {
            case 0: return now.work.faults;
            case 1: return now.work.kinds;
            case 2: return ruleCount;
            case 3: return now.today.left;
            case 4: return Integer.bitCount(now.today.found);
            case 5: return Integer.bitCount(now.today.mended);
            case 6: return now.rowLength;
            case 7: return now.today.x;
            case 8: return tapeLength;
            case 9: return now.days;
            case 10: return now.work.time;
            default: return NONE;
        }
    }

    public int coins(int what) {
        switch (what) {
            case 0: return now.today.earned;
            case 1: return now.masterCoins;
            case 2: return now.earnedBefore;
            default: return NO_COINS;
        }
    }

    // ---- what is done

    public int look(int fault) {
        if (!isFault(fault)) {
            return NONE;
        }
        if (!now.work.isOpen(fault, now.today.gone())) {
            return -2;
        }
        if (at(now.work.minutes, fault) > now.today.left) {
            return -3;
        }
        return now.today.lookFor(now.work, fault) ? 1 : 0;
    }

    public int fine(int coins) {
        if (!hasWork() || coins < 0 || coins > 999) {
            return NO_COINS;
        }
        now.today.earned -= coins;
        return now.today.earned;
    }

    public int mend(int fault) {
        if (!isFault(fault) || has(now.today.gone(), fault)) {
            return NO_COINS;
        }
        now.today.mended |= bit(fault);
        now.masterCoins -= at(now.work.mend, fault);
        return now.masterCoins;
    }

    public int dawn() {
        if (!hasWork()) {
            return NO_COINS;
        }
        now.masterCoins += now.work.hiddenCoins(now.today.gone());
        now.earnedBefore += now.today.earned;
        now.days++;
        now.today.begin(now.work.time);
        return now.masterCoins;
    }

    public int seed(int x) {
        if (x < 0) {
            return NONE;
        }
        int before = now.today.x;
        now.today.x = x;
        return before;
    }

    // ---- DAYS by a RULE

    /** The RULE of a number; null where there is none, or no WORK to use it on. */
    private Rule ruleForWork(int rule) {
        boolean there = rule >= 0 && rule < ruleCount && rule < rules.length && hasWork();
        return there ? rules[rule] : null;
    }

    public int day(int rule) {
        Rule told = ruleForWork(rule);
        if (told == null) {
            return NO_COINS;
        }
        int before = now.today.earned;
        player.play(now.work, told, now.today);
        return now.today.earned - before;
    }

    public int would(int rule, int what) {
        Rule told = ruleForWork(rule);
        if (told == null || what < 0 || what > 4) {
            return NO_COINS;
        }
        trial.copyFrom(now.today);
        int looks = player.play(now.work, told, trial);
        switch (what) {
            case 0: return trial.earned - now.today.earned;
            case 1: return trial.found & ~now.today.found;
            case 2: return trial.left;
            case 3: return now.work.hiddenCoins(trial.gone());
            default: return looks;
        }
    }

    public int weeks(int rule, int m, int what) {
        Rule told = ruleForWork(rule);
        if (told == null || m < 1 || m > 20 || what < 0 || what > 2) {
            return NONE;
        }
        trial.copyFrom(now.today);
        int sum = 0;
        for (int i = 0; i < m * DAYS_OF_A_WEEK; i++) {
            trial.begin(now.work.time);
            player.play(now.work, told, trial);
            sum += what == 0 ? trial.earned
                : what == 1 ? Integer.bitCount(trial.found)
                : now.work.hiddenCoins(trial.gone());
        }
        return sum;
    }

    // ---- the ROW, BEST and MASTER

    public int row(int fault) {
        if (fault == NONE) {
            now.rowLength = 0;
            return 0;
        }
        if (!isFault(fault) || now.rowLength >= ROW_MOST) {
            return -2;
        }
        put(now.row, now.rowLength, fault);
        now.rowLength++;
        return now.rowLength;
    }

    public long worth(int part) {
        if (!hasWork() || part < 0 || part > 1) {
            return NONE;
        }
        long mean = rowMean(0, now.today.gone(), now.today.left, NONE);
        return partOf(mean, hundreds(now.rowLength), part);
    }

    public long seen(int fault, int part) {
        if (!isFault(fault) || part < 0 || part > 1) {
            return NONE;
        }
        if (has(now.today.found, fault)) {
            return 1L;
        }
        long mean = rowMean(0, now.today.gone(), now.today.left, fault);
        return partOf(mean, hundreds(now.rowLength), part);
    }

    /**
     * The mean of the ROW from one place on, times 100 for each LOOK from there on.
     * A fault is found once at most: so how likely one is seen is the mean if it alone pays, one coin.
     */
    private long rowMean(int place, int gone, int left, int onlyPaid) {
        if (place >= now.rowLength || place >= ROW_MOST) {
            return 0L;
        }
        int fault = at(now.row, place);
        int minutes = at(now.work.minutes, fault);
        if (!now.work.isOpen(fault, gone) || minutes > left) {
            return 100L * rowMean(place + 1, gone, left, onlyPaid);
        }
        int odds = at(now.work.odds, fault);
        int pay = onlyPaid == NONE ? at(now.work.pay, fault) : fault == onlyPaid ? 1 : 0;
        long found = pay * hundreds(now.rowLength - place - 1)
            + rowMean(place + 1, gone | bit(fault), left - minutes, onlyPaid);
        long missed = rowMean(place + 1, gone, left - minutes, onlyPaid);
        return odds * found + (100 - odds) * missed;
    }

    public long best(int n, int part) {
        if (!hasWork() || n < 0 || n > 5 || part < 0 || part > 2) {
            return NONE;
        }
        int gone = now.today.gone();
        if (part == 2) {
            return planner.choice(now.work, n, gone, now.today.left);
        }
        return partOf(planner.mostEarned(now.work, n, gone, now.today.left), hundreds(n), part);
    }

    public long master(int n, int part) {
        if (!hasWork() || n < 0 || n > 4 || part < 0 || part > 2) {
            return NO_MEAN;
        }
        planner.weighSets(now.work, n, now.today.gone(), now.today.left);
        return part == 2 ? planner.setToMend : partOf(planner.meanOfSet, hundreds(n), part);
    }

    // ---- the GAME, CHECKS, FITS

    public int game(int place, int n) {
        if (place < 0 || place >= now.game.length || n < -99 || n > 99) {
            return NO_NUMBER;
        }
        int before = now.game[place];
        now.game[place] = n;
        return before;
    }

    public int rests() {
        int bits = 0;
        for (int play = 0; play < 4; play++) {
            // The other row, and the other column, of a play differ by one bit of its number.
            boolean masterStays = at(now.game, play) >= at(now.game, play ^ 2);
            boolean apprenticeStays = at(now.game, 4 + play) >= at(now.game, 4 + (play ^ 1));
            if (masterStays && apprenticeStays) {
                bits |= 1 << play;
            }
        }
        return bits;
    }

    public int mixed(int what, int part) {
        if (what < 0 || what > 1 || part < 0 || part > 1) {
            return NONE;
        }
        if (rests() != 0) {
            return -2;
        }
        int[] g = now.game;
        // What one does makes both plays of the other one alike: so each is reckoned by the other's NUMBERS.
        int first = what == 0 ? at(g, 4) - at(g, 5) : at(g, 0) - at(g, 2);
        int second = what == 0 ? at(g, 7) - at(g, 6) : at(g, 3) - at(g, 1);
        int above = first + second < 0 ? -second : second;
        return (int) partOf(above, Math.abs(first + second), part);
    }

    public int checks(int gain, int fine) {
        if (gain < 0 || gain > 9999 || fine < 0 || fine > 9999) {
            return NONE;
        }
        int checked = 0;
        while (checked < 100 && gain * (100 - checked) > fine * checked) {
            checked++;
        }
        return checked;
    }

    public int fits(int amount, int what) {
        if (!hasWork() || amount < 0 || amount > 9999 || what < 0 || what > 2) {
            return NONE;
        }
        int every = bit(now.work.faults) - 1;
        int sets = 0;
        int inAll = every;
        int inSome = 0;
        for (int set = 0; set <= every; set++) {
            if (now.work.payOf(set) == amount && now.work.couldBeFound(set, now.today.mended)) {
                sets++;
                inAll &= set;
                inSome |= set;
            }
        }
        if (what == 0 || sets == 0) {
            return sets;
        }
        return what == 1 ? inAll : every & ~inSome;
    }

    // ---- IMAGES

    public int image(int k) {
        if (k < 0 || k >= images.length) {
            return NONE;
        }
        State kept = images[k];
        if (kept == null) {
            kept = new State(now.work);
            images[k] = kept;
        }
        kept.copyFrom(now);
        return now.days;
    }

    public int back(int k) {
        if (k < 0 || k >= images.length) {
            return NONE;
        }
        State kept = images[k];
        if (kept == null) {
            return NONE;
        }
        now.copyFrom(kept);
        return now.days;
    }

    // ---- small helpers

    private static int at(int[] numbers, int index) {
        return index >= 0 && index < numbers.length ? numbers[index] : 0;
    }

    private static void put(int[] numbers, int index, int number) {
        if (index >= 0 && index < numbers.length) {
            numbers[index] = number;
        }
    }

    private static int bit(int fault) {
        return 1 << fault;
    }

    private static boolean has(int bits, int fault) {
        return (bits & (1 << fault)) != 0;
    }

    private static long hundreds(int times) {
        long product = 1L;
        for (int i = 0; i < times && i < ROW_MOST; i++) {
            product *= 100L;
        }
        return product;
    }

    /** Part 0: above, 1: below the line of a fraction in lowest terms. */
    private static long partOf(long above, long below, int part) {
        long a = Math.abs(above);
        long b = below;
        // 100 turns are more than Euclid needs for any two numbers of 64 bits.
        for (int turn = 0; turn < 100 && b != 0; turn++) {
            long rest = a % b;
            a = b;
            b = rest;
        }
        if (a == 0) {
            return part == 0 ? above : below;
        }
        return (part == 0 ? above : below) / a;
    }

    /** A text as tokens, read from the first to the last, and the first fault along it (0: none). */
    private static final class Text {
        private final int[] codes;
        private final int[] places;
        private final int[] numbers;
        private int tokens;
        private int next;
        int code;
        int place;
        int number;
        int fault;

        Text() {
            // A token takes a byte at least, and behind them all is the END.
            codes = new int[TAPE_MOST + 1];
            places = new int[TAPE_MOST + 1];
            numbers = new int[TAPE_MOST + 1];
        }

        void open(int[] bytes, int length) {
            tokens = 0;
            int from = 0;
            for (int turn = 0; turn < TAPE_MOST && from < length; turn++) {
                from = cutToken(bytes, from, length);
            }
            addToken(END, length, 0);
            fault = 0;
            next = 0;
            step();
        }

        /** Cuts one token (or a blank): where the next one begins. */
        private int cutToken(int[] bytes, int from, int length) {
            int first = at(bytes, from);
            if (first == ' ') {
                return from + 1;
            }
            if (isDigit(first)) {
                return cutNumber(bytes, from, length);
            }
            if (isLetter(first)) {
                return cutWord(bytes, from, length);
            }
            boolean wide = (first == '<' || first == '>') && from + 1 < length && at(bytes, from + 1) == '=';
            if (wide) {
                addToken(first == '<' ? LESS_OR_EQUAL : MORE_OR_EQUAL, from, 0);
                return from + 2;
            }
            addToken(first, from, 0);
            return from + 1;
        }

        private int cutNumber(int[] bytes, int from, int length) {
            int to = from;
            int value = 0;
            while (to < length && isDigit(at(bytes, to))) {
                if (to < from + 5) {
                    value = value * 10 + at(bytes, to) - '0';
                }
                to++;
            }
            addToken(to - from > 5 ? LONG_NUMBER : NUMBER, from, value);
            return to;
        }

        private int cutWord(int[] bytes, int from, int length) {
            int to = from;
            while (to < length && isLetter(at(bytes, to))) {
                to++;
            }
            int word = clauseWord(bytes, from, to);
            addToken(word == OTHER_WORD ? valueWord(bytes, from, to) : word, from, 0);
            return to;
        }

        private static boolean isDigit(int sign) {
            return sign >= '0' && sign <= '9';
        }

        private static boolean isLetter(int sign) {
            return sign >= 'a' && sign <= 'z';
        }

        private static int clauseWord(int[] bytes, int from, int to) {
            return spells(bytes, from, to, "time") ? TIME
                : spells(bytes, from, to, "under") ? UNDER
                : spells(bytes, from, to, "look") ? LOOK
                : spells(bytes, from, to, "if") ? IF
                : spells(bytes, from, to, "stop") ? STOP
                : spells(bytes, from, to, "or") ? OR
                : spells(bytes, from, to, "and") ? AND
                : spells(bytes, from, to, "not") ? NOT
                : OTHER_WORD;
        }

        private static int valueWord(int[] bytes, int from, int to) {
            return spells(bytes, from, to, "fault") ? FAULT
                : spells(bytes, from, to, "kind") ? KIND
                : spells(bytes, from, to, "pay") ? PAY
                : spells(bytes, from, to, "odds") ? ODDS
                : spells(bytes, from, to, "minutes") ? MINUTES
                : spells(bytes, from, to, "left") ? LEFT
                : spells(bytes, from, to, "found") ? FOUND
                : spells(bytes, from, to, "tries") ? TRIES
                : spells(bytes, from, to, "earned") ? EARNED
                : OTHER_WORD;
        }

        private static boolean spells(int[] bytes, int from, int to, String word) {
            if (to - from != word.length()) {
                return false;
            }
            for (int i = 0; i < word.length(); i++) {
                if (at(bytes, from + i) != word.charAt(i)) {
                    return false;
                }
            }
            return true;
        }

        private void addToken(int tokenCode, int tokenPlace, int tokenNumber) {
            if (tokens >= 0 && tokens < codes.length) {
                codes[tokens] = tokenCode;
                places[tokens] = tokenPlace;
                numbers[tokens] = tokenNumber;
                tokens++;
            }
        }

        /** To the next token; from the END there is none. */
        void step() {
            if (next >= 0 && next < tokens && next < codes.length) {
                code = codes[next];
                place = places[next];
                number = numbers[next];
                next++;
            }
        }

        /** Texts are read along, so the fault that is told first is the first along the text. */
        void fail(int what) {
            if (fault == 0) {
                fault = 1 + 8 * place + what;
            }
        }

        int takeNumber(int least, int most) {
            int told = number;
            if (fault != 0) {
                return 0;
            }
            if (code == NUMBER && told >= least && told <= most) {
                step();
            } else {
                fail(code == NUMBER || code == LONG_NUMBER ? BAD_NUMBER : CANNOT_STAND);
            }
            return told;
        }

        /** Behind a CLAUSE: whether another one comes. */
        boolean anotherClause() {
            if (fault != 0 || code == END) {
                return false;
            }
            if (code != ';') {
                fail(CANNOT_STAND);
                return false;
            }
            step();
            return true;
        }
    }

    /** A WORK as it was told; nothing of it changes once it was read. */
    private static final class Work {
        final int serial;
        int time;
        int kinds;
        int faults;
        private boolean timeTold;
        final int[] kindPay;
        final int[] kindHide;
        final int[] kindMend;
        final int[] kindOf;
        final int[] minutes;
        final int[] odds;
        final int[] under;
        // Of each fault by its kind, so that no look needs to go by the kind.
        final int[] pay;
        final int[] hide;
        final int[] mend;
        // For the Planner: what one LOOK earns on the mean (times 100), the faults by it, the most first.
        final int[] oneLook;
        private final int[] byOneLook;
        int longest;

        Work(int serial) {
            this.serial = serial;
            kindPay = new int[KINDS_MOST];
            kindHide = new int[KINDS_MOST];
            kindMend = new int[KINDS_MOST];
            kindOf = new int[FAULTS_MOST];
            minutes = new int[FAULTS_MOST];
            odds = new int[FAULTS_MOST];
            under = new int[FAULTS_MOST];
            pay = new int[FAULTS_MOST];
            hide = new int[FAULTS_MOST];
            mend = new int[FAULTS_MOST];
            oneLook = new int[FAULTS_MOST];
            byOneLook = new int[FAULTS_MOST];
        }

        void readFrom(Text text) {
            time = 60;
            boolean more = true;
            for (int clause = 0; more && clause <= WORK_CLAUSES; clause++) {
                readClause(text, clause);
                more = text.anotherClause();
            }
            if (faults == 0) {
                text.fail(CANNOT_STAND);
            }
            orderLooks();
        }

        private void orderLooks() {
            for (int f = 0; f < faults; f++) {
                longest = Math.max(longest, at(minutes, f));
                put(oneLook, f, at(odds, f) * at(pay, f));
                int place = f;
                while (place > 0 && at(oneLook, at(byOneLook, place - 1)) < at(oneLook, f)) {
                    put(byOneLook, place, at(byOneLook, place - 1));
                    place--;
                }
                put(byOneLook, place, f);
            }
        }

        private void readClause(Text text, int clause) {
            int word = text.code;
            if (word != TIME && word != KIND && word != FAULT) {
                text.fail(CANNOT_STAND);
                return;
            }
            boolean full = word == TIME ? timeTold : word == KIND ? kinds >= KINDS_MOST : faults >= FAULTS_MOST;
            if (full || clause >= WORK_CLAUSES) {
                text.fail(CLAUSE_TOO_MANY);
                return;
            }
            text.step();
            if (word == TIME) {
                timeTold = true;
                time = text.takeNumber(1, 480);
            } else if (word == KIND) {
                readKind(text);
            } else {
                readFault(text);
            }
        }

        private void readKind(Text text) {
            put(kindPay, kinds, text.takeNumber(0, 99));
            put(kindHide, kinds, text.takeNumber(0, 99));
            put(kindMend, kinds, text.takeNumber(0, 99));
            kinds++;
        }

        private void readFault(Text text) {
            int kind = text.takeNumber(0, kinds - 1);
            put(kindOf, faults, kind);
            put(minutes, faults, text.takeNumber(1, 99));
            put(odds, faults, text.takeNumber(0, 100));
            put(under, faults, NONE);
            if (text.fault == 0 && text.code == UNDER) {
                text.step();
                put(under, faults, text.takeNumber(0, faults - 1));
            }
            put(pay, faults, at(kindPay, kind));
            put(hide, faults, at(kindHide, kind));
            put(mend, faults, at(kindMend, kind));
            faults++;
        }

        /** Whether a fault is OPEN, where those gone are the ones found or mended. */
        boolean isOpen(int fault, int gone) {
            if (fault < 0 || fault >= under.length || (gone >> fault & 1) != 0) {
                return false;
            }
            int over = under[fault];
            return over < 0 || (gone >> over & 1) != 0;
        }

        /** The most that one LOOK earns on the mean, times 100. */
        int mostByOneLook(int gone, int left) {
            for (int i = 0; i < faults; i++) {
                int f = at(byOneLook, i);
                if (at(minutes, f) <= left && isOpen(f, gone)) {
                    return at(oneLook, f);
                }
            }
            return 0;
        }

        /** HIDE of all that are not gone. */
        int hiddenCoins(int gone) {
            return together(hide, ~gone);
        }

        int payOf(int set) {
            return together(pay, set);
        }

        int mendingOf(int set) {
            return together(mend, set);
        }

        private int together(int[] coins, int set) {
            int sum = 0;
            for (int f = 0; f < faults; f++) {
                if (has(set, f)) {
                    sum += at(coins, f);
                }
            }
            return sum;
        }

        /** Whether a set could be found on a DAY from its begin, each fault of it by one LOOK. */
        boolean couldBeFound(int set, int mended) {
            int needed = 0;
            for (int f = 0; f < faults; f++) {
                if (has(set, f)) {
                    int over = at(under, f);
                    boolean covered = over >= 0 && !has(set | mended, over);
                    if (has(mended, f) || at(odds, f) == 0 || covered) {
                        return false;
                    }
                    needed += at(minutes, f);
                }
            }
            return needed <= time;
        }
    }

    /** A DAY as it stands, with the x of its DRAWS and what is mended: what a trial of a DAY changes. */
    private static final class Day {
        int left;
        int earned;
        int found;
        int mended;
        int x;
        final int[] tries;

        Day() {
            tries = new int[FAULTS_MOST];
        }

        void copyFrom(Day other) {
            left = other.left;
            earned = other.earned;
            found = other.found;
            mended = other.mended;
            x = other.x;
            System.arraycopy(other.tries, 0, tries, 0, FAULTS_MOST);
        }

        /** What was mended stays so, and x goes on. */
        void begin(int time) {
            left = time;
            earned = 0;
            found = 0;
            Arrays.fill(tries, 0);
        }

        int gone() {
            return found | mended;
        }

        /** A LOOK for a fault that is OPEN and whose minutes are left: whether it was found. */
        boolean lookFor(Work work, int fault) {
            left -= at(work.minutes, fault);
            put(tries, fault, at(tries, fault) + 1);
            x = (int) ((x * 1103515245L + 12345L) & 2147483647L);
            if (x / 65536 % 100 >= at(work.odds, fault)) {
                return false;
            }
            found |= bit(fault);
            earned += at(work.pay, fault);
            return true;
        }
    }

    /** All that an IMAGE keeps. */
    private static final class State {
        Work work;
        final Day today;
        int masterCoins;
        int earnedBefore;
        int days;
        final int[] row;
        int rowLength;
        final int[] game;

        State(Work work) {
            this.work = work;
            today = new Day();
            row = new int[ROW_MOST];
            game = new int[8];
        }

        void copyFrom(State other) {
            work = other.work;
            today.copyFrom(other.today);
            masterCoins = other.masterCoins;
            earnedBefore = other.earnedBefore;
            days = other.days;
            System.arraycopy(other.row, 0, row, 0, ROW_MOST);
            rowLength = other.rowLength;
            System.arraycopy(other.game, 0, game, 0, 8);
        }

        /** Only x and the GAME stay as they were. */
        void beginWork(Work told) {
            work = told;
            today.begin(told.time);
            today.mended = 0;
            masterCoins = 0;
            earnedBefore = 0;
            days = 0;
            rowLength = 0;
        }
    }

    /**
     * A RULE as code for a stack: numbers from 0 on stand for themselves, words and signs are their
     * token's code below 0. A look has its SUM from begin to middle, its TEST from there to finish
     * (empty without one); a stop has no SUM.
     */
    private static final class Rule {
        final int[] code;
        final int clauses;
        final int[] begin;
        final int[] middle;
        final int[] finish;

        Rule(int[] code, int clauses, int[] begin, int[] middle, int[] finish) {
            this.code = code;
            this.clauses = clauses;
            this.begin = begin;
            this.middle = middle;
            this.finish = finish;
        }
    }

    /** Reads the text of a RULE; the text of a WORK is cut in the same place, to save rows. */
    private static final class RuleReader {
        final Text text;
        private final int[] code;
        private int length;
        private int pieces;
        private int clauses;
        private final int[] begin;
        private final int[] middle;
        private final int[] finish;

        RuleReader() {
            text = new Text();
            // Each code comes from one byte of the text at least.
            code = new int[TAPE_MOST];
            begin = new int[RULE_CLAUSES];
            middle = new int[RULE_CLAUSES];
            finish = new int[RULE_CLAUSES];
        }

        void start() {
            length = 0;
            pieces = 0;
            clauses = 0;
        }

        Rule makeRule() {
            int size = Math.max(0, Math.min(length, TAPE_MOST));
            return new Rule(Arrays.copyOf(code, size), clauses, begin.clone(), middle.clone(), finish.clone());
        }

        void readClause() {
            int word = text.code;
            if (word != LOOK && word != STOP) {
                text.fail(CANNOT_STAND);
                return;
            }
            if (clauses >= RULE_CLAUSES) {
                text.fail(CLAUSE_TOO_MANY);
                return;
            }
            text.step();
            put(begin, clauses, length);
            boolean tested = word == STOP;
            if (word == LOOK) {
                readSum();
                if (text.fault == 0 && text.code == IF) {
                    tested = true;
                    text.step();
                }
            }
            put(middle, clauses, length);
            if (tested) {
                readTest(0);
            }
            put(finish, clauses, length);
            clauses++;
        }

        /** An or waits until the PART behind it was read, so that and binds more. */
        private void readTest(int depth) {
            boolean orWaits = false;
            readFact(depth);
            for (int i = 0; i < TAPE_MOST && text.fault == 0 && (text.code == OR || text.code == AND); i++) {
                boolean isOr = text.code == OR;
                if (isOr && orWaits) {
                    emit(-OR);
                }
                orWaits = orWaits || isOr;
                text.step();
                readFact(depth);
                if (!isOr) {
                    emit(-AND);
                }
            }
            if (orWaits) {
                emit(-OR);
            }
        }

        private void readFact(int depth) {
            boolean isNot = text.code == NOT;
            if (!isNot && text.code != '[') {
                readComparison();
                return;
            }
            if (depth >= DEPTH_MOST) {
                text.fail(TOO_DEEP);
                return;
            }
            text.step();
            if (isNot) {
                readFact(depth + 1);
                emit(-NOT);
                return;
            }
            readTest(depth + 1);
            if (text.fault == 0 && text.code != ']') {
                text.fail(CANNOT_STAND);
                return;
            }
            text.step();
        }

        private void readComparison() {
            readSum();
            if (text.fault != 0) {
                return;
            }
            int sign = text.code;
            if (sign != '<' && sign != LESS_OR_EQUAL && sign != '=' && sign != MORE_OR_EQUAL && sign != '>') {
                text.fail(CANNOT_STAND);
                return;
            }
            if (pieces >= PIECES_MOST) {
                text.fail(PIECE_TOO_MANY);
                return;
            }
            pieces++;
            text.step();
            readSum();
            emit(-sign);
        }

        /** A + or - waits until the TERM behind it was read, so that * and / bind more. */
        private void readSum() {
            int waiting = 0;
            readValue();
            for (int i = 0; i < TAPE_MOST && text.fault == 0; i++) {
                int sign = text.code;
                boolean binds = sign == '*' || sign == '/';
                if (!binds && sign != '+' && sign != '-') {
                    break;
                }
                if (!binds && waiting != 0) {
                    emit(-waiting);
                }
                waiting = binds ? waiting : sign;
                text.step();
                readValue();
                if (binds) {
                    emit(-sign);
                }
            }
            if (waiting != 0) {
                emit(-waiting);
            }
        }

        private void readValue() {
            boolean isNumber = text.code == NUMBER;
            boolean isWord = text.code >= FAULT && text.code <= EARNED;
            if (!isNumber && !isWord) {
                text.fail(text.code == LONG_NUMBER ? BAD_NUMBER : CANNOT_STAND);
                return;
            }
            if (pieces >= PIECES_MOST) {
                text.fail(PIECE_TOO_MANY);
                return;
            }
            pieces++;
            emit(isNumber ? text.number : -text.code);
            text.step();
        }

        private void emit(int what) {
            if (length >= 0 && length < code.length) {
                code[length] = what;
                length++;
            }
        }
    }

    /** Plays a DAY by a RULE. */
    private static final class Player {
        private final long[] stack;

        Player() {
            // Two that wait at each of 11 levels, and four of a FACT, are the most: 26.
            stack = new long[32];
        }

        /** How many LOOKS were made. */
        int play(Work work, Rule rule, Day day) {
            for (int looks = 0; looks < LOOKS_OF_A_DAY; looks++) {
                int fault = nextFault(work, rule, day);
                if (fault < 0 || stopsAt(work, rule, day, fault)) {
                    return looks;
                }
                day.lookFor(work, fault);
            }
            return LOOKS_OF_A_DAY;
        }

        private int nextFault(Work work, Rule rule, Day day) {
            int chosen = NONE;
            long least = 0L;
            for (int f = 0; f < work.faults; f++) {
                boolean could = work.isOpen(f, day.gone()) && at(work.minutes, f) <= day.left;
                int clause = could ? lookClause(work, rule, day, f) : NONE;
                if (clause >= 0) {
                    int from = at(rule.begin, clause);
                    long sum = reckon(rule.code, from, at(rule.middle, clause), work, day, f);
                    if (chosen < 0 || sum < least) {
                        chosen = f;
                        least = sum;
                    }
                }
            }
            return chosen;
        }

        private int lookClause(Work work, Rule rule, Day day, int fault) {
            for (int c = 0; c < rule.clauses; c++) {
                int middle = at(rule.middle, c);
                int finish = at(rule.finish, c);
                boolean isLook = at(rule.begin, c) < middle;
                if (isLook && (middle == finish || reckon(rule.code, middle, finish, work, day, fault) != 0)) {
                    return c;
                }
            }
            return NONE;
        }

        private boolean stopsAt(Work work, Rule rule, Day day, int fault) {
            for (int c = 0; c < rule.clauses; c++) {
                int middle = at(rule.middle, c);
                boolean isStop = at(rule.begin, c) == middle;
                if (isStop && reckon(rule.code, middle, at(rule.finish, c), work, day, fault) != 0) {
                    return true;
                }
            }
            return false;
        }

        /** What a stretch of a RULE's code answers for a fault; of a TEST 1 if it holds, else 0. */
        private long reckon(int[] code, int from, int to, Work work, Day day, int fault) {
            int top = -1;
            for (int i = Math.max(from, 0); i < to && i < code.length; i++) {
                int c = code[i];
                if (c >= 0 || c <= -FAULT) {
                    top++;
                    if (top >= stack.length) {
                        return 0L;
                    }
                    stack[top] = c >= 0 ? c : wordOf(-c, work, day, fault);
                } else if (c == -NOT) {
                    if (top < 0) {
                        return 0L;
                    }
                    stack[top] = 1L - stack[top];
                } else {
                    if (top < 1) {
                        return 0L;
                    }
                    top--;
                    stack[top] = join(-c, stack[top], stack[top + 1]);
                }
            }
            return top < 0 ? 0L : stack[top];
        }

        private static long wordOf(int word, Work work, Day day, int fault) {
            switch (word) {
                case FAULT: return fault;
                case KIND: return at(work.kindOf, fault);
                case PAY: return at(work.pay, fault);
                case ODDS: return at(work.odds, fault);
                case MINUTES: return at(work.minutes, fault);
                case LEFT: return day.left;
                case FOUND: return Integer.bitCount(day.found);
                case TRIES: return at(day.tries, fault);
                default: return day.earned;
            }
        }

        private static long join(int sign, long a, long b) {
            switch (sign) {
                case '+': return a + b;
                case '-': return a - b;
                case '*': return a * b;
                case '/': return b == 0L ? 0L : a / b;
                case AND: return a & b;
                case OR: return a | b;
                default: return compares(sign, a, b) ? 1L : 0L;
            }
        }

        private static boolean compares(int sign, long a, long b) {
            switch (sign) {
                case '<': return a < b;
                case LESS_OR_EQUAL: return a <= b;
                case '=': return a == b;
                case MORE_OR_EQUAL: return a >= b;
                default: return a > b;
            }
        }
    }

    /**
     * BEST and MASTER. A mean with n LOOKS is told times 100 to the n, so that it is a whole number.
     * What can be earned hangs on the WORK, on what is gone and on the minutes left alone: it is kept
     * by these, and so shared by all sets that a master may mend.
     */
    private static final class Planner {
        private static final int SLOTS = 2048;

        private final long[] keys;
        private final long[] kept;
        int setToMend;
        long meanOfSet;

        Planner() {
            keys = new long[SLOTS];
            kept = new long[SLOTS];
        }

        /** The most that can be earned on the mean; to stop is always free. */
        long mostEarned(Work work, int looks, int gone, int left) {
            if (looks <= 1) {
                return looks == 1 ? work.mostByOneLook(gone, left) : 0L;
            }
            // More minutes than so many LOOKS can take are as good as just these, and share their slot.
            int usable = Math.min(left, looks * work.longest);
            // A WORK's number is 1 or more, so no key is 0, as an empty slot's is.
            long key = ((work.serial * 8L + looks) << 19) | (gone << 9) | usable;
            int slot = (int) ((key * 0x9E3779B97F4A7C15L) >>> 53) & (SLOTS - 1);
            if (keys[slot] == key) {
                return kept[slot];
            }
            long most = 0L;
            for (int f = 0; f < work.faults; f++) {
                most = Math.max(most, earnedBy(work, f, looks, gone, usable));
            }
            keys[slot] = key;
            kept[slot] = most;
            return most;
        }

        /** The most with a LOOK for this fault first; below 0 if it can't be looked for. */
        private long earnedBy(Work work, int fault, int looks, int gone, int left) {
            int rest = left - at(work.minutes, fault);
            if (rest < 0 || !work.isOpen(fault, gone)) {
                return -1L;
            }
            int odds = at(work.odds, fault);
            long paid = at(work.pay, fault) * hundreds(looks - 1);
            long found = paid + mostEarned(work, looks - 1, gone | bit(fault), rest);
            return odds * found + (100 - odds) * mostEarned(work, looks - 1, gone, rest);
        }

        /** The first LOOK of the best; -2, if to stop is as good. */
        int choice(Work work, int looks, int gone, int left) {
            long most = mostEarned(work, looks, gone, left);
            if (most <= 0L) {
                return -2;
            }
            for (int f = 0; f < work.faults; f++) {
                if (earnedBy(work, f, looks, gone, left) == most) {
                    return f;
                }
            }
            return -2;
        }

        /** HIDE on the mean of all that stay, behind an apprentice who looks as is best for him. */
        private long hiddenMean(Work work, int looks, int gone, int left) {
            int fault = choice(work, looks, gone, left);
            if (fault < 0) {
                return work.hiddenCoins(gone) * hundreds(looks);
            }
            int rest = left - at(work.minutes, fault);
            int odds = at(work.odds, fault);
            return odds * hiddenMean(work, looks - 1, gone | bit(fault), rest)
                + (100 - odds) * hiddenMean(work, looks - 1, gone, rest);
        }

        /** The set to mend, and what is left to the master then. */
        void weighSets(Work work, int looks, int gone, int left) {
            int free = leastFree(work, gone);
            setToMend = 0;
            meanOfSet = hiddenMean(work, looks, gone, left);
            for (int set = 1; set <= free; set++) {
                if ((set & ~free) == 0) {
                    long mean = hiddenMean(work, looks, gone | set, left) - work.mendingOf(set) * hundreds(looks);
                    // Sets come by their bits from the least on, so of as many the first one stays.
                    boolean fewer = Integer.bitCount(set) < Integer.bitCount(setToMend);
                    if (mean > meanOfSet || mean == meanOfSet && fewer) {
                        setToMend = set;
                        meanOfSet = mean;
                    }
                }
            }
        }

        /** The least faults that are not gone, as bits, as many as a master may mend at once. */
        private int leastFree(Work work, int gone) {
            int free = 0;
            for (int f = 0; f < work.faults && Integer.bitCount(free) < MENDED_AT_ONCE; f++) {
                if (!has(gone, f)) {
                    free |= bit(f);
                }
            }
            return free;
        }
    }
}

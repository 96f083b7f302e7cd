import java.util.function.ToLongFunction;

/**
 * The boundaries that part I of the Terms and the promises 2 to 5 name, for the TAPE, the WORK and the RULES:
 * the last that is allowed, the first that is refused, and that what is refused changes nothing.
 */
public final class TextBoundsTest {
    private static final String KIND = "kind 1 1 1;";
    private static final String FAULT = "fault 0 1 1;";
    private static final String ONE = "kind 1 1 1;fault 0 1 1";
    private static final String[] VALUES = {"fault", "kind", "pay", "odds", "minutes", "left", "found", "tries", "earned"};
    private static final Check check = new Check();

    public static void main(String[] args) {
        tape();
        end();
        workNumbers();
        workMissing();
        workTold();
        workMost();
        workWords();
        allStays();
        sixRules();
        digits();
        words();
        blanks();
        bytesOfWorks();
        bytesOfRules();
        signs();
        clauses();
        clausesMean();
        depth();
        depthMeans();
        pieces();
        piecesOfAll();
        longRulesMean();
        leastOfAPlace();
        lastBytes();
        check.close("TextBoundsTest");
    }

    private static void due(String call, long got, long want) {
        check.due(call, got, want);
    }

    private static void goodWork(String text, int faults) {
        due("work: " + text, Check.work(new PaidMistakes(), text), faults);
    }

    private static void badWork(String text, int place, int what) {
        due("work: " + text, Check.work(new PaidMistakes(), text), Check.faulty(place, what));
    }

    private static void goodRule(String text) {
        due("rule: " + text, Check.rule(new PaidMistakes(), text), 0);
    }

    private static void badRule(String text, int place, int what) {
        due("rule: " + text, Check.rule(new PaidMistakes(), text), Check.faulty(place, what));
    }

    /** How many LOOKS a DAY by a RULE has, with one fault that is found at once and nothing else. */
    private static void looks(String rule, int looks) {
        PaidMistakes x = new PaidMistakes();
        Check.work(x, "kind 1 1 1;fault 0 1 100");
        due("rule: " + rule, Check.rule(x, rule), 0);
        due("LOOKS by " + rule, x.would(0, 4), looks);
    }

    private static void holds(String test) {
        looks("look 1;stop " + test, 0);
        looks("look 1 if " + test, 1);
    }

    private static void failsToHold(String test) {
        looks("look 1;stop " + test, 1);
        looks("look 1 if " + test, 0);
    }

    // ---- promises 2 and 3

    /** "NONE, and none comes, if it would have more than 400." */
    private static void tape() {
        for (int has = 378; has <= 382; has++) {
            PaidMistakes x = new PaidMistakes();
            Check.tell(x, " ".repeat(has));
            due("feed behind " + has, x.feed(0, 0, 0, 0, 0), has <= 380 ? has + 20 : -1);
            due("then it has", x.count(8), has <= 380 ? has + 20 : has);
        }
        ToLongFunction<PaidMistakes> feed = x -> x.feed(0x6c6f6f6b, 0x20302020, 0, -1, 1);
        States.nothingHappens(check, "feed a full TAPE", States::full, feed, -1);
        States.nothingHappens(check, "feed behind 381", TextBoundsTest::busyWith381, feed, -1);
        // A number's four bytes come from the highest on, also of one below 0.
        PaidMistakes y = new PaidMistakes();
        due("feed an empty TAPE", y.feed(0x6b696e64, 0x20302030, 0x20303bfa, 0, 0), 20);
        due("the 12th byte can't stand", y.work(), Check.faulty(11, 0));
        due("feed an empty TAPE", y.feed(0x20202020, 0x20202020, 0xfa202020, 0, 0), 20);
        due("the 9th byte can't stand", y.work(), Check.faulty(8, 0));
        due("feed", y.feed(0x20202020, 0x20202020, 0x20202020, 0x20202020, 0x20202000), 20);
        due("the last byte can't stand", y.rule(), Check.faulty(19, 0));
    }

    private static PaidMistakes busyWith381() {
        PaidMistakes x = States.busy();
        Check.tell(x, "look 2" + " ".repeat(375));
        return x;
    }

    /** "NONE, and nothing happens, if it has not so many, or n is below 0." */
    private static void end() {
        for (int n : new int[] {-1, -2, Integer.MIN_VALUE, 401, Integer.MAX_VALUE}) {
            States.refused(check, "end " + n, x -> x.end(n), -1);
        }
        States.nothingHappens(check, "end beyond 21", States::busy, x -> x.end(22), -1);
        States.nothingHappens(check, "end beyond 0", States::empty, x -> x.end(1), -1);
        States.nothingHappens(check, "end at what it has", States::busy, x -> x.end(21), 21);
        States.nothingHappens(check, "end 0 of none", States::empty, x -> x.end(0), 0);
        States.nothingHappens(check, "end at 400", States::full, x -> x.end(400), 400);
        PaidMistakes x = States.full();
        due("end 399", x.end(399), 399);
        due("then 400 are too many", x.end(400), -1);
        due("end 1", x.end(1), 1);
        due("end 0", x.end(0), 0);
        due("then 1 is too many", x.end(1), -1);
        due("TAPE", x.count(8), 0);
        // Bytes that were cut off do not come again: "look 1" cut to 4, then " 2".
        PaidMistakes y = new PaidMistakes();
        Check.tell(y, "look 1");
        y.end(4);
        y.feed(0x20323b20, 0, 0, 0, 0);
        y.end(6);
        due("look 2", y.rule(), 0);
        Check.work(y, "kind 1 1 1;fault 0 1 100");
        due("one LOOK", y.would(0, 4), 1);
        // Neither do they go on a NUMBER or a WORD that ends the text.
        PaidMistakes z = new PaidMistakes();
        Check.tell(z, "kind 1 1 1;fault 0 1 12");
        z.end(22);
        due("ODDS 1", z.work(), 1);
        due("not 12", z.fault(0, 2), 1);
        Check.tell(z, "look pays");
        z.end(8);
        due("look pay", z.rule(), 0);
    }

    // ---- the WORK

    private static void workNumbers() {
        number("time ", ";" + ONE, 1, 480, x -> x.count(10));
        number("time ", ";" + ONE, 1, 480, x -> x.count(3));
        number("kind ", " 1 1;fault 0 1 1", 0, 99, x -> x.kind(0, 0));
        number("kind 1 ", " 1;fault 0 1 1", 0, 99, x -> x.kind(0, 1));
        number("kind 1 1 ", ";fault 0 1 1", 0, 99, x -> x.kind(0, 2));
        number(KIND + "fault 0 ", " 1", 1, 99, x -> x.fault(0, 1));
        number(KIND + "fault 0 1 ", "", 0, 100, x -> x.fault(0, 2));
        for (int kinds = 1; kinds <= 6; kinds++) {
            number(KIND.repeat(kinds) + "fault ", " 1 1", 0, kinds - 1, x -> x.fault(0, 0));
        }
        for (int told = 1; told <= 9; told++) {
            int last = told;
            number(KIND + FAULT.repeat(told) + "fault 0 1 1 under ", "", 0, told - 1, x -> x.fault(last, 3));
        }
    }

    /** A NUMBER of a WORK: its least and most are taken and kept, its neighbours refused where it begins. */
    private static void number(String ahead, String behind, int least, int most, ToLongFunction<PaidMistakes> kept) {
        for (int n : new int[] {least, Math.min(least + 1, most), Math.max(most - 1, least), most}) {
            PaidMistakes x = new PaidMistakes();
            check.holds("taken: " + ahead + n + behind, Check.work(x, ahead + n + behind) > 0);
            due("kept: " + ahead + n + behind, kept.applyAsLong(x), n);
        }
        PaidMistakes five = new PaidMistakes();
        String digits = "0".repeat(5 - String.valueOf(most).length()) + most;
        check.holds("five digits: " + ahead + digits + behind, Check.work(five, ahead + digits + behind) > 0);
        due("five digits are kept: " + ahead + digits, kept.applyAsLong(five), most);
        badWork(ahead + "0" + digits + behind, ahead.length(), 1);
        badWork(ahead + (most + 1) + behind, ahead.length(), 1);
        badWork(ahead + "99999" + behind, ahead.length(), 1);
        badWork(ahead + "100000" + behind, ahead.length(), 1);
        badWork(ahead + "-1" + behind, ahead.length(), 0);
        badWork(ahead + "x" + behind, ahead.length(), 0);
        if (least > 0) {
            badWork(ahead + (least - 1) + behind, ahead.length(), 1);
        }
    }

    /** A NUMBER that is not there: the end, or the sign that comes instead. */
    private static void workMissing() {
        String[] heads = {"time", "kind", "kind 1", "kind 1 1", KIND + "fault", KIND + "fault 0", KIND + "fault 0 1",
            KIND + FAULT + "fault 0 1 1 under"};
        for (String head : heads) {
            badWork(head, head.length(), 0);
            badWork(head + "  ", head.length() + 2, 0);
            badWork(head + ";" + ONE, head.length(), 0);
            badWork(head + " kind", head.length() + 1, 0);
        }
        // One NUMBER more can't stand, either.
        for (String whole : new String[] {"time 5", "kind 1 1 1", ONE, KIND + FAULT + "fault 0 1 1 under 0"}) {
            badWork(whole + " 1", whole.length() + 1, 0);
            badWork(whole + " 123456", whole.length() + 1, 0);
        }
    }

    /** "its KIND, that was told", "a FAULT that was told", "once at most, 60 without", "at least one FAULT". */
    private static void workTold() {
        badWork("fault 0 1 1;" + KIND + "fault 0 1 1", 6, 1);
        badWork(KIND + "fault 1 1 1;" + KIND + "fault 1 1 1", KIND.length() + 6, 1);
        goodWork(KIND + "fault 0 1 1;" + KIND + "fault 1 1 1", 2);
        badWork(ONE + " under 0", ONE.length() + 7, 1);
        badWork(ONE + " under 0;fault 0 1 1", ONE.length() + 7, 1);
        badWork(ONE + " under 1;fault 0 1 1", ONE.length() + 7, 1);
        badWork(ONE + ";fault 0 1 1 under 1", ONE.length() + 19, 1);
        goodWork(ONE + ";fault 0 1 1 under 0", 2);
        badWork("time 5;time 5;" + ONE, 7, 4);
        badWork("time 5;" + ONE + "; time 0", 7 + ONE.length() + 2, 4);
        goodWork(ONE + ";time 5", 1);
        for (String text : new String[] {ONE, "time 60;" + ONE, ONE + ";time 60"}) {
            PaidMistakes x = new PaidMistakes();
            Check.work(x, text);
            due("60 minutes: " + text, x.count(10), 60);
            due("60 minutes left: " + text, x.count(3), 60);
        }
        for (String text : new String[] {"", " ", "time 5", "kind 1 1 1", "time 5;kind 1 1 1", "kind 1 1 1;kind 1 1 1 "}) {
            badWork(text, text.length(), 0);
        }
        PaidMistakes x = new PaidMistakes();
        due("in the order told", Check.work(x, "kind 1 2 3;fault 0 9 8;kind 4 5 6;fault 1 7 6;fault 0 5 4"), 3);
        int[][] faults = {{0, 9, 8, -1}, {1, 7, 6, -1}, {0, 5, 4, -1}};
        for (int i = 0; i < 12; i++) {
            due("fault " + i / 4 + " " + i % 4, x.fault(i / 4, i % 4), faults[i / 4][i % 4]);
        }
    }

    /** "KINDS 0 to 5, FAULTS 0 to 9"; 24 CLAUSES never stand, as a time, 6 KINDS and 10 FAULTS are 17. */
    private static void workMost() {
        for (int kinds = 5; kinds <= 6; kinds++) {
            PaidMistakes x = new PaidMistakes();
            due("FAULTS", Check.work(x, KIND.repeat(kinds) + "fault 0 1 1"), 1);
            due("KINDS", x.count(1), kinds);
            due("the last KIND", x.kind(kinds - 1, 0), 1);
            due("one behind it", x.kind(kinds, 0), -1);
        }
        badWork(KIND.repeat(7) + "fault 0 1 1", 66, 4);
        badWork(KIND.repeat(6) + "  kind", 68, 4);
        for (int faults = 9; faults <= 10; faults++) {
            PaidMistakes x = new PaidMistakes();
            due("FAULTS", Check.work(x, KIND + FAULT.repeat(faults - 1) + "fault 0 1 1"), faults);
            due("the last FAULT", x.fault(faults - 1, 1), 1);
            due("one behind it", x.fault(faults, 1), -2);
        }
        badWork(KIND + FAULT.repeat(10) + "fault 0 1 1", 131, 4);
        badWork(KIND + FAULT.repeat(10) + " fault", 132, 4);
        String all = "time 1;" + KIND.repeat(6) + FAULT.repeat(10);
        goodWork(all.substring(0, all.length() - 1), 10);
        for (String clause : new String[] {"time 1", "kind 1 1 1", "fault 0 1 1", "time", "kind 100", "fault x"}) {
            badWork(all + clause, all.length(), 4);
        }
        for (String clause : new String[] {"", "under 0", "look 1", "x", ";"}) {
            badWork(all + clause, all.length(), 0);
        }
        badWork(all + "time 1;".repeat(7) + "time 1", all.length(), 4);
    }

    private static void workWords() {
        for (String word : new String[] {"tim", "times", "kin", "kinds", "faul", "faults", "under", "look", "stop", "pay",
            "Time", "KIND", "t", "if", "not"}) {
            badWork(word + " 1 1 1", 0, 0);
            badWork(ONE + ";" + word + " 1 1 1", ONE.length() + 1, 0);
        }
        badWork("kinD 1 1 1", 0, 0);
        badWork(ONE + ";fault 0 1 1 unde 0", ONE.length() + 13, 0);
        badWork(ONE + ";fault 0 1 1 unders 0", ONE.length() + 13, 0);
        badWork(ONE + ";fault 0 1 1 Under 0", ONE.length() + 13, 0);
        badWork(ONE + ";fault 0 1 1 under 0 under 0", ONE.length() + 21, 0);
        badWork(ONE + ";fault 0 1 under 0", ONE.length() + 11, 0);
        badWork("kind 1 1 1 under 0", 11, 0);
        badWork("time 1 under 0", 7, 0);
    }

    /** "-2 - its FAULT, and all stays": but for the TAPE, "which is empty then". */
    private static void allStays() {
        String[] texts = {"", "time 5", "kind 1 1 1;fault 0 1 101", ONE + ";", "time 5;time 5"};
        for (String text : texts) {
            PaidMistakes[] called = {States.withoutWork(), States.busy(), States.full()};
            PaidMistakes[] twins = {States.withoutWork(), States.busy(), States.full()};
            for (int i = 0; i < 3; i++) {
                check.holds("refused: " + text, Check.work(called[i], text) < -2);
                twins[i].end(0);
                States.same(check, "a faulty WORK " + text + " on state " + i, called[i], twins[i]);
            }
        }
    }

    // ---- RULES

    /** "NONE, and nothing happens: there are 6." */
    private static void sixRules() {
        States.nothingHappens(check, "a seventh RULE", States::full, x -> x.rule(), -1);
        for (String text : new String[] {"", "look", "look 1", "x"}) {
            PaidMistakes x = States.full();
            Check.tell(x, text);
            due("there are 6: " + text, x.rule(), -1);
            due("the TAPE stays", x.count(8), text.length());
            due("RULES", x.count(2), 6);
        }
        PaidMistakes five = new PaidMistakes();
        for (int i = 0; i < 5; i++) {
            due("rule " + i, Check.rule(five, "look 1"), i);
        }
        due("a faulty sixth", Check.rule(five, "look"), Check.faulty(4, 0));
        due("is none", five.count(2), 5);
        due("a sixth", Check.rule(five, "look 1"), 5);
        due("a seventh", Check.rule(five, "look 1"), -1);
        for (String text : new String[] {"", "look", "stop 1=1]", "look 123456"}) {
            PaidMistakes[] called = {States.withoutWork(), States.busy()};
            PaidMistakes[] twins = {States.withoutWork(), States.busy()};
            for (int i = 0; i < 2; i++) {
                check.holds("refused: " + text, Check.rule(called[i], text) < -2);
                twins[i].end(0);
                States.same(check, "a faulty RULE " + text + " on state " + i, called[i], twins[i]);
            }
        }
    }

    /** "NUMBER (1 to 5 digits, as far as digits go on)". */
    private static void digits() {
        for (String number : new String[] {"0", "9", "00000", "99999", "12345"}) {
            goodRule("look " + number);
            goodRule("stop " + number + "=" + number);
        }
        for (String number : new String[] {"000000", "100000", "999999", "1".repeat(100), "0".repeat(395)}) {
            badRule("look " + number, 5, 1);
        }
        badRule("stop 1=100000", 7, 1);
        badRule("stop 1+100000=1", 7, 1);
        badRule("stop 100000", 5, 1);
        badRule("look 12345 6", 11, 0);
        badRule("look 12345x", 10, 0);
        badRule("look 1 if 100000", 10, 1);
        badRule("look -1", 5, 0);
        holds("00007=7");
        holds("99999=99998+1");
        failsToHold("12345=1234");
    }

    /** "WORDS (small letters, as far as these go on)". */
    private static void words() {
        for (String word : VALUES) {
            goodRule("look " + word);
            goodRule("stop " + word + "=" + word);
            badRule("look " + word.substring(0, word.length() - 1), 5, 0);
            badRule("look " + word.substring(1), 5, 0);
            badRule("look " + word + "s", 5, 0);
            badRule("look " + word + word, 5, 0);
            badRule("look " + word + "1", 5 + word.length(), 0);
            badRule("look " + word + "S", 5 + word.length(), 0);
            badRule("look " + word.toUpperCase(), 5, 0);
            badRule(word + " 1", 0, 0);
        }
        for (String word : new String[] {"loo", "looks", "sto", "stops", "if", "time", "not", "or", "and", "under", "lookpay"}) {
            badRule(word + " 1=1", 0, 0);
        }
        for (String word : new String[] {"i", "iff", "or", "and", "not", "under", "look", "stop", "pay"}) {
            badRule("look 1 " + word + " 1=1", 7, 0);
        }
        for (String word : new String[] {"o", "ors", "an", "ands", "not", "if", "pay", "look"}) {
            badRule("stop 1=1 " + word + " 1=1", 9, 0);
        }
        for (String word : new String[] {"no", "nots", "or", "and", "if", "time", "under", "look", "stop"}) {
            badRule("stop " + word + " 1=1", 5, 0);
        }
        goodRule("stop 1=1 or 1=1 and not 1=1");
        goodRule("look 1 if 1=1");
    }

    /** "Blanks (32) stand between as one likes." */
    private static void blanks() {
        goodRule("look1if1=1;stop1=1or1=1and not1=1");
        goodRule("   look   1   if   1   <=   1   ;   stop   not   [   1   >   1   ]   ");
        goodWork("kind1 1 1;fault0 1 1;fault0 1 1under0;time5", 2);
        goodWork("   kind   1   1   1   ;   fault   0   1   1   ", 1);
        badWork("kind111;fault 0 1 1", 4, 1);
        badWork("kind11 1;fault 0 1 1", 8, 0);
        badRule("lo ok 1", 0, 0);
        badRule("look pa y", 5, 0);
        badRule("look 1 0", 7, 0);
        badRule("stop 1 < = 1", 9, 0);
        badRule("stop 1 > = 1", 9, 0);
        badRule("lookpay", 0, 0);
        badRule("look payif 1=1", 5, 0);
        badRule("stop notpay=1", 5, 0);
        for (int other : new int[] {0, 9, 10, 11, 12, 13, 31, 33, 95, 127, 128, 160, 255}) {
            badRule("look" + (char) other + "1", 4, 0);
            badRule("look 1" + (char) other, 6, 0);
            badWork("kind" + (char) other + "1 1 1", 4, 0);
            badWork(ONE + (char) other, ONE.length(), 0);
        }
    }

    /** Each byte where a CLAUSE begins, and behind a whole one: "a byte or WORD that can't stand there". */
    private static void bytesOfWorks() {
        for (int b = 0; b < 256; b++) {
            String sign = String.valueOf((char) b);
            badWork(sign, b == ' ' ? 1 : 0, 0);
            badWork(KIND + sign, KIND.length() + (b == ' ' ? 1 : 0), 0);
            boolean digit = b >= '0' && b <= '9';
            if (digit || b == ' ') {
                goodWork(ONE + sign, 1);
            } else {
                badWork(ONE + sign, ONE.length() + (b == ';' ? 1 : 0), 0);
            }
        }
    }

    private static void bytesOfRules() {
        for (int b = 0; b < 256; b++) {
            String sign = String.valueOf((char) b);
            boolean blank = b == ' ';
            boolean digit = b >= '0' && b <= '9';
            boolean sums = "+-*/".indexOf(b) >= 0;
            boolean letter = b >= 'a' && b <= 'z';
            badRule(sign, blank ? 1 : 0, 0);
            if (blank) {
                goodRule("look pay" + sign);
            } else {
                badRule("look pay" + sign, letter ? 5 : sums || b == ';' ? 9 : 8, 0);
            }
            badRule("look " + sign + (digit ? "x" : ""), digit || blank ? 6 : 5, 0);
            badRule("stop " + sign, digit || blank || b == '[' ? 6 : 5, 0);
            badRule("stop 1" + sign, digit || blank || sums || "<=>".indexOf(b) >= 0 ? 7 : 6, 0);
            if (b == ']') {
                goodRule("stop [1=1" + sign);
            } else {
                badRule("stop [1=1" + sign, digit || blank || sums ? 10 : 9, 0);
            }
            if (digit) {
                goodRule("stop 1=" + sign);
            } else {
                badRule("stop 1=" + sign, blank ? 8 : 7, 0);
            }
            if (digit || blank) {
                goodRule("look 1" + sign);
                goodRule("stop 1=1" + sign);
            } else {
                badRule("look 1" + sign, sums || b == ';' ? 7 : 6, 0);
                badRule("stop 1=1" + sign, sums || b == ';' ? 9 : 8, 0);
            }
        }
    }

    /** "SIGN one of < <= = >= >." */
    private static void signs() {
        String[] signs = {"<", "<=", "=", ">=", ">"};
        boolean[][] due = {{true, false, false}, {true, true, false}, {false, true, false}, {false, true, true}, {false, false, true}};
        for (int s = 0; s < 5; s++) {
            for (int left = 1; left <= 3; left++) {
                String test = left + signs[s] + "2";
                if (due[s][left - 1]) {
                    holds(test);
                } else {
                    failsToHold(test);
                }
            }
        }
        for (String sign : new String[] {"<>", "=<", "=>", "==", ">>", "<<", "><", "=["}) {
            badRule("stop 1" + sign + "2", 7, 0);
        }
        badRule("stop 1<==2", 8, 0);
        badRule("stop 1>=<2", 8, 0);
        badRule("stop 1!=2", 6, 0);
        badRule("stop 1 2", 7, 0);
        badRule("stop 1=2=3", 8, 0);
        badRule("stop 1=2<3", 8, 0);
        // Goes round in 64 bits; / is towards 0, and 0 by 0.
        holds("[0-1=0-1]");
        holds("7/2=3");
        holds("0-7/2=0-3");
        holds("7/0=0");
        holds("0/0=0");
        holds("0-1/0=0");
        holds("1/2=0");
        wrapAround();
    }

    /** 2 to the 63rd is below 0, one less is above; and by -1 it stays as it is. */
    private static void wrapAround() {
        String two31 = "32768*65536";
        String two32 = "65536*65536";
        holds(two31 + "*" + two32 + "<0");
        holds(two31 + "*" + two32 + "-1>0");
        holds("0-" + two31 + "*" + two32 + "<0");
        holds(two32 + "*" + two32 + "=0");
        holds(two31 + "*" + two32 + "-1+1<0");
        holds(two31 + "*" + two32 + "/1<0");
        failsToHold(two31 + "*" + two31 + "<0");
    }

    /** "12 CLAUSES at most"; "one CLAUSE too many (at its first byte)". */
    private static void clauses() {
        goodRule("look 1" + ";look 1".repeat(11));
        goodRule("stop 1=1" + ";stop 1=1".repeat(11));
        goodRule("look 1" + ";look 1".repeat(10) + ";stop 1=1");
        String twelve = "look 1" + ";look 1".repeat(11);
        for (String clause : new String[] {"look 1", "stop 1=1", "look", "stop x", "look 123456"}) {
            badRule(twelve + ";" + clause, twelve.length() + 1, 4);
            badRule(twelve + " ;  " + clause, twelve.length() + 4, 4);
        }
        for (String clause : new String[] {"", "x", "1", ";", "kind 1 1 1", "looks 1"}) {
            badRule(twelve + ";" + clause, twelve.length() + 1, 0);
        }
        badRule(twelve + " x", twelve.length() + 1, 0);
        badRule(";look 1", 0, 0);
        badRule("look 1;;look 1", 7, 0);
        badRule("look 1; ;look 1", 8, 0);
        badRule("look 1;", 7, 0);
        badRule("look 1,look 1", 6, 0);
    }

    /** The 12th CLAUSE counts as the others do. */
    private static void clausesMean() {
        looks("look 9 if 1=2;".repeat(11) + "look 1", 1);
        looks("look 9 if 1=2;".repeat(11) + "look 1 if 1=2", 0);
        looks("look 1;" + "stop 1=2;".repeat(10) + "stop 1=1", 0);
        looks("look 1;" + "stop 1=2;".repeat(10) + "stop 1=2", 1);
    }

    /** "[ and not lie within one another 10 deep at most"; "too deep (at the sign that opens, or the word not)". */
    private static void depth() {
        for (String ahead : new String[] {"stop ", "look 1 if ", "look 1;stop ", "stop [1=1] and ", "stop not not 1=1 or ",
            "stop " + "[".repeat(10) + "1=1" + "]".repeat(10) + " or ", "stop " + "not ".repeat(10) + "1=1;stop "}) {
            for (int nots = 0; nots <= 10; nots++) {
                String open = "not ".repeat(nots) + "[".repeat(10 - nots);
                String shut = "]".repeat(10 - nots);
                goodRule(ahead + open + "1=1" + shut);
                badRule(ahead + open + "[1=1]" + shut, ahead.length() + open.length(), 2);
                badRule(ahead + open + "not 1=1" + shut, ahead.length() + open.length(), 2);
                badRule(ahead + open + "[x", ahead.length() + open.length(), 2);
                if (nots < 10) {
                    badRule(ahead + open + "1=1 and [1=1]", ahead.length() + open.length() + 8, 2);
                } else {
                    // A not holds to its FACT alone: behind it all are over.
                    goodRule(ahead + open + "1=1 and [1=1]");
                }
            }
            String both = "not [".repeat(5);
            goodRule(ahead + both + "1=1" + "]".repeat(5));
            badRule(ahead + both + "  [", ahead.length() + both.length() + 2, 2);
            badRule(ahead + both + "not", ahead.length() + both.length(), 2);
            badRule(ahead + both + "nots", ahead.length() + both.length(), 0);
        }
        goodRule("stop " + "[1=1 or ".repeat(10) + "1=1" + "]".repeat(10));
        badRule("stop " + "[1=1 or ".repeat(10) + "[1=1", 85, 2);
        goodRule("stop " + "not ".repeat(10) + "1=1 and " + "not ".repeat(10) + "1=1");
        goodRule("stop " + "[".repeat(9) + "[1=1] and [1=1] or not 1=1" + "]".repeat(9));
        badRule("stop " + "[".repeat(9) + "[1=1] and [not 1=1] or not 1=1" + "]".repeat(9), 14 + 11, 2);
    }

    private static void depthMeans() {
        holds("[".repeat(10) + "1=1" + "]".repeat(10));
        failsToHold("[".repeat(10) + "1=2" + "]".repeat(10));
        holds("not ".repeat(10) + "1=1");
        failsToHold("not ".repeat(9) + "1=1");
        failsToHold("not [".repeat(5) + "1=1" + "]".repeat(5));
        // Nearly 60 VALUES and FACTS, with two of each level waiting for what is within.
        holds("1=2or 1=1and[".repeat(9) + "1=1" + "]".repeat(9));
        failsToHold("1=2or 1=1and[".repeat(9) + "1=2" + "]".repeat(9));
        holds("1=2or 1=1and[".repeat(8) + "[[1=2or 1+2*3=7" + "]".repeat(10));
    }

    /** "at most 60 VALUES (of SUMS) and FACTS made of a SIGN, together"; at a VALUE's first byte, a FACT's SIGN. */
    private static void pieces() {
        goodRule("look 1" + "+1".repeat(58));
        goodRule("look 1" + "+1".repeat(59));
        badRule("look 1" + "+1".repeat(60), 125, 3);
        badRule("look 1" + "+1".repeat(59) + " *   minutes", 124 + 5, 3);
        goodRule("stop 1=1" + "or 1=1".repeat(19));
        badRule("stop 1=1" + "or 1=1".repeat(20), 8 + 114 + 3, 3);
        // VALUES ahead, then the VALUE, the SIGN and the VALUE of a FACT: the first one beyond 60.
        goodRule("look 1" + "+1".repeat(56) + "if 1<=1");
        badRule("look 1" + "+1".repeat(57) + "if 1<=1", 120 + 6, 3);
        badRule("look 1" + "+1".repeat(58) + "if 1<=1", 122 + 4, 3);
        badRule("look 1" + "+1".repeat(58) + "if 1  <=1", 122 + 6, 3);
        badRule("look 1" + "+1".repeat(59) + "if 1<=1", 124 + 3, 3);
        // What is neither is not counted: brackets, not, and, or, if, signs of SUMS.
        goodRule("stop not [1=1]" + "or[1=1]".repeat(19));
        goodRule("look 1+1*1-1/1;".repeat(11) + "look 1+1*1-1/1");
        badRule("look 1+1*1-1/1;".repeat(11) + "look 1+1*1-1/1+1", 165 + 15, 3);
        badRule("look 1+1*1-1/1;".repeat(10) + "look 1+1*1-1/1+1;look 1+1*1-1/1", 150 + 17 + 13, 3);
    }

    /** The count begins anew with each RULE, behind a faulty one, too. */
    private static void piecesOfAll() {
        PaidMistakes x = new PaidMistakes();
        String most = "look 1" + "+1".repeat(59);
        due("60", Check.rule(x, most), 0);
        due("60 again", Check.rule(x, most), 1);
        due("61", Check.rule(x, most + "+1"), Check.faulty(125, 3));
        due("60 again", Check.rule(x, most), 2);
        due("12 CLAUSES", Check.rule(x, "look 1" + ";look 1".repeat(11)), 3);
        due("13", Check.rule(x, "look 1" + ";look 1".repeat(12)), Check.faulty(84, 4));
        due("12 again", Check.rule(x, "look 1" + ";look 1".repeat(11)), 4);
    }

    /** Six RULES of nearly all the VALUES there may be, each behind a faulty one as long: each means what it says. */
    private static void longRulesMean() {
        PaidMistakes x = new PaidMistakes();
        Check.work(x, "kind 1 1 1;kind 9 1 1;fault 0 1 100;fault 1 1 100");
        String dearest = "look 0-pay" + "+0".repeat(54) + ";stop found>0";
        String cheapest = "look 0+pay" + "+0".repeat(54) + ";stop found>0";
        for (int rule = 0; rule < 6; rule++) {
            due("faulty, " + rule + " ahead", Check.rule(x, dearest + ";"), Check.faulty(132, 0));
            due("long, " + rule + " ahead", Check.rule(x, rule % 2 == 0 ? dearest : cheapest), rule);
        }
        for (int rule = 0; rule < 6; rule++) {
            due("found by long RULE " + rule, x.would(rule, 1), rule % 2 == 0 ? 2 : 1);
        }
    }

    /** "the first along the text ... Of one place the least." */
    private static void leastOfAPlace() {
        String sixty = "look 1" + "+1".repeat(59);
        badRule(sixty + "+x", 125, 0);
        badRule(sixty + "+", 125, 0);
        badRule(sixty + "+;", 125, 0);
        badRule(sixty + "+123456", 125, 1);
        badRule(sixty + "+1", 125, 3);
        badRule(sixty + "if [", 124 + 4, 0);
        badRule(sixty + "if " + "[".repeat(11), 124 + 13, 2);
        badRule(sixty + "if " + "[".repeat(10) + "x", 124 + 13, 0);
        badRule(sixty + "if " + "[".repeat(10) + "1", 124 + 13, 3);
        badRule("look 1" + "+1".repeat(58) + "if 1!", 122 + 4, 0);
        badRule("look 1" + "+1".repeat(58) + "if 1", 122 + 4, 0);
        badRule("look 1" + "+1".repeat(58) + "if 1=", 122 + 4, 3);
        badRule("stop " + "[".repeat(10) + "123456", 15, 1);
        badRule("stop " + "[".repeat(10) + "x", 15, 0);
        badRule("stop " + "[".repeat(10), 15, 0);
        // The first along the text, though a graver one comes behind it.
        badRule("look 123456;x", 5, 1);
        badRule("look x;look 123456", 5, 0);
        badRule("stop " + "[".repeat(11) + "x", 15, 2);
        badWork("time 481;x", 5, 1);
        badWork("kind 100 x", 5, 1);
        badWork("time 5;time x", 7, 4);
        badWork("time 123456", 5, 1);
        badWork("time 5", 6, 0);
    }

    /** "A text of at most 400 bytes": the 400th counts, and the end lies behind it. */
    private static void lastBytes() {
        goodWork(" ".repeat(400 - ONE.length()) + ONE, 1);
        goodWork(ONE + " ".repeat(400 - ONE.length()), 1);
        goodWork(" ".repeat(399 - ONE.length()) + ONE, 1);
        badWork(" ".repeat(400), 400, 0);
        badWork(" ".repeat(399), 399, 0);
        badWork(ONE + " ".repeat(399 - ONE.length()) + ";", 400, 0);
        badWork(ONE + " ".repeat(399 - ONE.length()) + "x", 399, 0);
        goodRule("look" + " ".repeat(395) + "1");
        goodRule("look" + " ".repeat(394) + "1");
        badRule("look" + " ".repeat(396), 400, 0);
        badRule("look 1" + " ".repeat(393) + ";", 400, 0);
        badRule("look 1" + " ".repeat(393) + "]", 399, 0);
        badRule("stop" + " ".repeat(395) + "[", 400, 0);
        badRule("[".repeat(400), 0, 0);
        badRule("stop " + "[".repeat(395), 15, 2);
        badRule("", 0, 0);
        badRule(" ", 1, 0);
    }
}

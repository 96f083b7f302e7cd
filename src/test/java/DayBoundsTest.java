import java.util.List;
import java.util.function.Supplier;

/**
 * The boundaries that part II of the Terms and the promises 6 to 13, 24 and 25 name, for LOOKS, coins and DAYS:
 * the last that is allowed, the first that is refused, and that what is refused changes nothing.
 */
public final class DayBoundsTest {
    private static final int NO_COINS = -1000000;
    private static final int[] OUTSIDE_FAULTS = {-1, 10, -2, 11, Integer.MIN_VALUE, Integer.MAX_VALUE};
    private static final int[] OUTSIDE_RULES = {-1, 6, -2, 7, Integer.MIN_VALUE, Integer.MAX_VALUE};
    private static final Check check = new Check();

    public static void main(String[] args) {
        kinds();
        faults();
        open();
        noFault();
        notOpen();
        minutes();
        odds();
        draws();
        fines();
        finesWithoutWork();
        mending();
        mendingRefused();
        dawns();
        dayRefused();
        lastRule();
        twoHundredLooks();
        leastSum();
        firstClause();
        stopsOfTheChosen();
        coinsBelowNothing();
        wouldRefused();
        wouldIsTheDay();
        seeds();
        weeksRefused();
        weeksMost();
        check.close("DayBoundsTest");
    }

    private static void due(String call, long got, long want) {
        check.due(call, got, want);
    }

    private static PaidMistakes with(String work, String... rules) {
        PaidMistakes x = new PaidMistakes();
        check.holds("taken: " + work, Check.work(x, work) > 0);
        for (int i = 0; i < rules.length; i++) {
            due("rule: " + rules[i], Check.rule(x, rules[i]), i);
        }
        return x;
    }

    // ---- promises 6 and 7

    /** "NONE without these." */
    private static void kinds() {
        for (int outside : new int[] {-1, 6, -2, 7, Integer.MIN_VALUE, Integer.MAX_VALUE}) {
            for (int what = 0; what < 3; what++) {
                int asked = what;
                States.refused(check, "kind " + outside + " " + what, x -> x.kind(outside, asked), -1);
            }
        }
        for (int what : new int[] {-1, 3, Integer.MIN_VALUE, Integer.MAX_VALUE}) {
            States.refused(check, "kind 0 " + what, x -> x.kind(0, what), -1);
        }
        States.nothingHappens(check, "kind 0 without a WORK", States::withoutWork, x -> x.kind(0, 0), -1);
        States.nothingHappens(check, "kind 2 of two", States::busy, x -> x.kind(2, 0), -1);
        States.nothingHappens(check, "kind 1 of two", States::busy, x -> x.kind(1, 2), 1);
        PaidMistakes x = with("kind 1 2 3;kind 4 5 6;kind 7 8 9;kind 10 11 12;kind 13 14 15;kind 16 17 18;fault 5 1 1");
        for (int i = 0; i < 18; i++) {
            due("kind " + i / 3 + " " + i % 3, x.kind(i / 3, i % 3), i + 1);
        }
    }

    /** "-2 without these." */
    private static void faults() {
        for (int outside : OUTSIDE_FAULTS) {
            for (int what = 0; what < 7; what++) {
                int asked = what;
                States.refused(check, "fault " + outside + " " + what, x -> x.fault(outside, asked), -2);
            }
        }
        for (int what : new int[] {-1, 7, Integer.MIN_VALUE, Integer.MAX_VALUE}) {
            States.refused(check, "fault 0 " + what, x -> x.fault(0, what), -2);
        }
        States.nothingHappens(check, "fault 0 without a WORK", States::withoutWork, x -> x.fault(0, 3), -2);
        States.nothingHappens(check, "fault 5 of five", States::busy, x -> x.fault(5, 0), -2);
        States.nothingHappens(check, "fault 4 of five", States::busy, x -> x.fault(4, 3), 1);
        States.nothingHappens(check, "under none: NONE", States::busy, x -> x.fault(3, 3), -1);
        States.nothingHappens(check, "there", DayBoundsTest::oneOfEach, x -> x.fault(2, 4), 0);
        States.nothingHappens(check, "found", DayBoundsTest::oneOfEach, x -> x.fault(0, 4), 1);
        States.nothingHappens(check, "mended", DayBoundsTest::oneOfEach, x -> x.fault(1, 4), 2);
        PaidMistakes x = with("kind 1 1 1" + ";fault 0 7 9".repeat(9) + ";fault 0 8 10 under 8");
        int[] last = {0, 8, 10, 8, 0, 0, 0};
        for (int what = 0; what < 7; what++) {
            due("fault 9 " + what, x.fault(9, what), last[what]);
        }
    }

    // ---- OPEN and LOOKS

    /** "is under none, or under one that was found or mended": only the one it is under counts. */
    private static void open() {
        String work = "kind 1 1 1;fault 0 1 100;fault 0 1 100 under 0;fault 0 1 100 under 1;fault 0 1 100 under 1";
        PaidMistakes x = with(work);
        opens(x, "at first", 1, 0, 0, 0);
        x.look(0);
        opens(x, "0 found", 0, 1, 0, 0);
        x.look(1);
        opens(x, "1 found", 0, 0, 1, 1);
        x.mend(2);
        opens(x, "2 mended", 0, 0, 0, 1);
        x.dawn();
        opens(x, "a new DAY", 1, 0, 0, 0);
        x.mend(1);
        opens(x, "1 mended, though 0 stands", 1, 0, 0, 1);
        x.mend(0);
        opens(x, "0 mended", 0, 0, 0, 1);
    }

    private static void opens(PaidMistakes x, String name, int... due) {
        for (int fault = 0; fault < due.length; fault++) {
            due(name + ": OPEN " + fault, x.fault(fault, 6), due[fault]);
        }
    }

    /** look: "NONE without it." */
    private static void noFault() {
        for (int outside : OUTSIDE_FAULTS) {
            States.refused(check, "look " + outside, x -> x.look(outside), -1);
        }
        States.nothingHappens(check, "look 0 without a WORK", States::withoutWork, x -> x.look(0), -1);
        States.nothingHappens(check, "look 5 of five", States::busy, x -> x.look(5), -1);
        PaidMistakes x = with("kind 1 1 1" + ";fault 0 1 100".repeat(10));
        due("look 9 of ten", x.look(9), 1);
        due("look 10 of ten", x.look(10), -1);
    }

    private static PaidMistakes oneOfEach() {
        PaidMistakes x = with("time 9;kind 7 1 1;fault 0 1 100;fault 0 1 100;fault 0 9 100;fault 0 9 100 under 2", "look 1");
        x.seed(5);
        x.look(0);
        x.mend(1);
        x.row(2);
        Check.tell(x, "look 2");
        return x;
    }

    /** look: "-2, and nothing happens: it is not OPEN", also where its minutes are not left. */
    private static void notOpen() {
        States.nothingHappens(check, "look for a found one", DayBoundsTest::oneOfEach, x -> x.look(0), -2);
        States.nothingHappens(check, "look for a mended one", DayBoundsTest::oneOfEach, x -> x.look(1), -2);
        States.nothingHappens(check, "9 minutes are not left", DayBoundsTest::oneOfEach, x -> x.look(2), -3);
        States.nothingHappens(check, "look for a hidden one", DayBoundsTest::oneOfEach, x -> x.look(3), -2);
    }

    /** "takes its minutes, if these are left": all that are left are enough, one less is not. */
    private static void minutes() {
        for (int time = 98; time <= 100; time++) {
            PaidMistakes x = with("time " + time + ";kind 5 1 1;fault 0 99 100");
            due("99 of " + time, x.look(0), time < 99 ? -3 : 1);
            due("left of " + time, x.count(3), time < 99 ? time : time - 99);
            due("tries", x.fault(0, 5), time < 99 ? 0 : 1);
            due("coins", x.coins(0), time < 99 ? 0 : 5);
        }
        PaidMistakes x = with("time 3;kind 5 1 1;fault 0 1 0;fault 0 2 0");
        due("3 left", x.look(0), 0);
        due("2 left", x.look(1), 0);
        int draws = x.count(7);
        due("0 left", x.look(0), -3);
        due("x stays", x.count(7), draws);
        due("0 left", x.count(3), 0);
        PaidMistakes y = with("time 3;kind 5 1 1;fault 0 1 0;fault 0 2 0");
        y.look(1);
        due("1 left for 2", y.look(1), -3);
        due("1 left for 1", y.look(0), 0);
        due("none left", y.count(3), 0);
    }

    /** "if a DRAW mod 100 is below its ODDS": a DRAW as high as the ODDS finds nothing, one less does. */
    private static void odds() {
        for (int odds = 0; odds <= 100; odds++) {
            PaidMistakes x = with("kind 3 1 1;fault 0 1 " + odds + ";fault 0 1 " + odds);
            if (odds < 100) {
                x.seed(seedOf(odds));
                due("a DRAW of " + odds + " by ODDS " + odds, x.look(0), 0);
                due("it stays as it was", x.fault(0, 4) + x.coins(0), 0);
                due("but was looked for", x.fault(0, 5), 1);
            }
            if (odds > 0) {
                x.seed(seedOf(odds - 1));
                due("a DRAW of " + (odds - 1) + " by ODDS " + odds, x.look(1), 1);
                due("found", x.fault(1, 4), 1);
                due("paid", x.coins(0), 3);
            }
        }
        PaidMistakes never = with("kind 3 1 1;fault 0 1 0");
        never.seed(seedOf(0));
        due("ODDS 0 and a DRAW of 0", never.look(0), 0);
        PaidMistakes always = with("kind 3 1 1;fault 0 1 100");
        always.seed(seedOf(99));
        due("ODDS 100 and a DRAW of 99", always.look(0), 1);
    }

    private static long next(long x) {
        return (x * 1103515245L + 12345L) % 2147483648L;
    }

    /** The least x behind which a DRAW mod 100 is so much. */
    private static int seedOf(int hundredth) {
        int x = 0;
        while (next(x) / 65536 % 100 != hundredth) {
            x++;
        }
        return x;
    }

    /** "x (0 to 2147483647; 0 at first) becomes x * 1103515245 + 12345, of 2147483648 the rest". */
    private static void draws() {
        for (int seed : new int[] {0, 1, 2, 65535, 65536, 1073741823, 1073741824, 2147483646, 2147483647}) {
            PaidMistakes x = with("kind 3 1 1;fault 0 1 0");
            due("0 at first", x.seed(seed), 0);
            long due = seed;
            for (int i = 0; i < 20; i++) {
                x.look(0);
                due = next(due);
                due("x behind " + seed, x.count(7), due);
            }
        }
    }

    // ---- coins

    /** fine: "so many coins (0 to 999)". */
    private static void fines() {
        for (int coins : new int[] {-1, 1000, -2, 1001, Integer.MIN_VALUE, Integer.MAX_VALUE}) {
            States.refused(check, "fine " + coins, x -> x.fine(coins), NO_COINS);
        }
        PaidMistakes x = with("kind 1 1 1;fault 0 1 100");
        int due = 0;
        for (int coins : new int[] {0, 1, 998, 999, 0}) {
            due -= coins;
            due("fine " + coins, x.fine(coins), due);
            due("his coins", x.coins(0), due);
        }
        due("no minutes", x.count(3), 60);
        due("no DRAW", x.count(7), 0);
        due("not the master's", x.coins(1), 0);
        x.look(0);
        due("below 0, and paid", x.coins(0), -1997);
        x.dawn();
        due("DAYS that are over", x.coins(2), -1997);
        due("a new DAY", x.coins(0), 0);
    }

    private static void finesWithoutWork() {
        for (int coins : new int[] {0, 1, 999}) {
            States.nothingHappens(check, "fine " + coins + " of none", States::empty, x -> x.fine(coins), NO_COINS);
            States.nothingHappens(check, "fine " + coins + " without a WORK", States::withoutWork, x -> x.fine(coins), NO_COINS);
        }
    }

    /** "it costs him its MEND (from his coins, which may be below 0)". */
    private static void mending() {
        PaidMistakes x = with("kind 1 5 0;kind 1 7 99;fault 0 1 100;fault 1 1 100;fault 1 1 100 under 1;fault 0 1 100 under 2");
        due("MEND 0", x.mend(0), 0);
        due("MEND 99", x.mend(1), -99);
        due("one that is hidden", x.mend(3), -99);
        due("mended", x.count(5), 3);
        due("2 is OPEN", x.look(2), 1);
        due("found is not mended", x.mend(2), NO_COINS);
        due("nothing stays: dawn", x.dawn(), -99);
        due("found yesterday", x.mend(2), -198);
        due("all mended", x.count(5), 4);
        due("dawn", x.dawn(), -198);
        due("mended stays mended", x.count(5), 4);
        PaidMistakes y = with("kind 1 5 3" + ";fault 0 1 100".repeat(10));
        due("the last of ten", y.mend(9), -3);
        due("one behind it", y.mend(10), NO_COINS);
    }

    /** mend: "-1000000, and nothing happens: it was found or mended, or is none." */
    private static void mendingRefused() {
        for (int outside : OUTSIDE_FAULTS) {
            States.refused(check, "mend " + outside, x -> x.mend(outside), NO_COINS);
        }
        States.nothingHappens(check, "mend a found one", DayBoundsTest::oneOfEach, x -> x.mend(0), NO_COINS);
        States.nothingHappens(check, "mend a mended one", DayBoundsTest::oneOfEach, x -> x.mend(1), NO_COINS);
        States.nothingHappens(check, "mend 4 of four", DayBoundsTest::oneOfEach, x -> x.mend(4), NO_COINS);
        States.nothingHappens(check, "mend 0 without a WORK", States::withoutWork, x -> x.mend(0), NO_COINS);
    }

    /** dawn: "the master has HIDDEN of the one that ends"; "-1000000 without a WORK." */
    private static void dawns() {
        States.nothingHappens(check, "dawn of none", States::empty, x -> x.dawn(), NO_COINS);
        States.nothingHappens(check, "dawn without a WORK", States::withoutWork, x -> x.dawn(), NO_COINS);
        PaidMistakes x = with("time 3;kind 2 99 1;kind 2 0 1;fault 0 1 100;fault 0 1 100 under 0;fault 1 1 0;fault 0 1 100");
        due("all stays", x.dawn(), 297);
        due("DAYS", x.count(9), 1);
        x.look(0);
        x.look(1);
        x.look(2);
        due("one of three stays", x.dawn(), 396);
        due("all minutes", x.count(3), 3);
        due("nothing found", x.count(4), 0);
        due("no tries", x.fault(0, 5) + x.fault(1, 5) + x.fault(2, 5), 0);
        due("no coins", x.coins(0), 0);
        due("coins of what is over", x.coins(2), 4);
        x.mend(0);
        x.mend(1);
        x.look(3);
        due("nothing that hides stays", x.dawn(), 394);
        due("DAYS", x.count(9), 3);
        due("mended stays", x.count(5), 2);
        due("x goes on", x.count(7), next(next(next(next(0)))));
    }

    // ---- DAYS by a RULE

    /** day: "-1000000, and nothing happens, without these (no WORK)." */
    private static void dayRefused() {
        for (int outside : OUTSIDE_RULES) {
            States.refused(check, "day " + outside, x -> x.day(outside), NO_COINS);
        }
        States.nothingHappens(check, "day 2 of two RULES", States::busy, x -> x.day(2), NO_COINS);
        States.nothingHappens(check, "day 0 without a WORK", States::withoutWork, x -> x.day(0), NO_COINS);
        States.nothingHappens(check, "day 0 of nothing", States::empty, x -> x.day(0), NO_COINS);
    }

    private static void lastRule() {
        PaidMistakes x = with("time 6;kind 5 1 1;fault 0 1 100;fault 0 1 100",
            "look 1", "look 1", "look 1", "look 1", "look 1", "look 1;stop found=1");
        due("would by RULE 5", x.would(5, 4), 1);
        due("weeks by RULE 5", x.weeks(5, 1, 1), 6);
        due("day by RULE 5", x.day(5), 5);
        due("found", x.count(4), 1);
    }

    /** "200 LOOKS at most." */
    private static void twoHundredLooks() {
        for (int time = 198; time <= 202; time++) {
            PaidMistakes x = with("time " + time + ";kind 5 1 1;fault 0 1 0", "look 1");
            int looks = Math.min(time, 200);
            due("LOOKS in " + time, x.would(0, 4), looks);
            due("left of " + time, x.would(0, 2), time - looks);
            x.day(0);
            due("tries in " + time, x.fault(0, 5), looks);
            due("left of " + time, x.count(3), time - looks);
            due("what is left is looked for on a DAY from there", x.would(0, 4), time - looks);
        }
        // The 200th LOOK may still find; a 201st would.
        PaidMistakes y = with("time 480;kind 5 1 1;fault 0 1 0;fault 0 1 100", "look 1 if tries<199 and fault=0;look 9-fault");
        due("199 and the one that is found", y.would(0, 0), 5);
        due("LOOKS", y.would(0, 4), 200);
        PaidMistakes z = with("time 480;kind 5 1 1;fault 0 1 0;fault 0 1 100", "look 1 if tries<200 and fault=0;look 9-fault");
        due("200 and none is left", z.would(0, 0), 0);
        due("LOOKS", z.would(0, 4), 200);
    }

    /** "the one with the least SUM, of several the least number"; SUMS go round in 64 bits. */
    private static void leastSum() {
        String work = "time 1;kind 1 1 1;kind 2 1 1;kind 4 1 1;fault 0 1 100;fault 1 1 100;fault 2 1 100";
        due("all alike: 0", with(work, "look 5").would(0, 1), 1);
        due("1 and 2 alike: 1", with(work, "look 5 if fault=0;look 4").would(0, 1), 2);
        due("one less: 2", with(work, "look 5 if fault<2;look 4").would(0, 1), 4);
        due("one more: 0", with(work, "look 5 if fault<2;look 6").would(0, 1), 1);
        due("below 0", with(work, "look 0-fault").would(0, 1), 4);
        String most = "32768*65536*65536*65536-1";
        due("the most is not the least", with(work, "look " + most + " if fault=0;look " + most + "-1 if fault=1;look " + most).would(0, 1), 2);
        due("one more goes round", with(work, "look 0 if fault=0;look " + most + "+1 if fault=1;look 0-1").would(0, 1), 2);
    }

    /** "the first look CLAUSE without a TEST, or whose TEST holds (those without one are not looked for)". */
    private static void firstClause() {
        String work = "time 9;kind 1 1 1;kind 2 1 1;kind 4 1 1;fault 0 1 100;fault 1 1 100;fault 2 1 100";
        due("none holds", with(work, "look 1 if fault>2").would(0, 4), 0);
        due("the last alone", with(work, "look 1 if fault>1").would(0, 1), 4);
        due("no look CLAUSE", with(work, "stop 1=2").would(0, 4), 0);
        due("all", with(work, "look 1 if fault>1;look 1").would(0, 1), 7);
        due("the first counts: 0, 1, 2", with(work, "look fault;look 9-fault;stop found=1").would(0, 1), 1);
        due("the first that holds", with(work, "look fault if fault=9;look 9-fault;stop found=1").would(0, 1), 4);
    }

    /** "if some stop TEST holds for it, that is the end": for the one that would be looked for alone. */
    private static void stopsOfTheChosen() {
        String work = "time 9;kind 1 1 1;kind 2 1 1;kind 4 1 1;fault 0 1 100;fault 1 1 100;fault 2 1 100";
        due("2 stops: 0 and 1 are found", with(work, "look fault;stop fault=2").would(0, 1), 3);
        due("0 stops: none", with(work, "stop fault=0;look fault").would(0, 4), 0);
        due("the second stop", with(work, "look fault;stop fault=3;stop fault=1").would(0, 1), 1);
        due("a stop holds for one that can't be looked for", with(work, "look fault if fault<2;stop fault=2").would(0, 1), 3);
        PaidMistakes x = with("time 3;kind 1 1 1;fault 0 2 0;fault 0 1 100", "look 0-minutes;stop left<2");
        due("as the minutes go, what is left changes", x.would(0, 4), 1);
        PaidMistakes y = with("time 3;kind 1 1 1;fault 0 2 0;fault 0 1 100", "look 0-minutes");
        due("then the one whose minutes are left", y.would(0, 4), 2);
        due("nothing left", y.would(0, 2), 0);
        PaidMistakes z = with("time 2;kind 1 1 1;fault 0 3 100;fault 0 1 100 under 0", "look 1");
        due("one is too long, one is hidden", z.would(0, 4), 0);
    }

    /** Coins below 0 are VALUES, too: "/ is towards 0", and goes round at the least number. */
    private static void coinsBelowNothing() {
        String[] tests = {"earned=0-2", "7/earned=0-3", "0-7/earned=3", "earned/2=0-1", "earned/3=0", "earned*earned=4"};
        for (String test : tests) {
            PaidMistakes x = with("kind 1 1 1;fault 0 1 100", "look 1;stop " + test);
            x.fine(2);
            due(test + " with -2 coins", x.would(0, 4), 0);
        }
        PaidMistakes y = with("kind 1 1 1;fault 0 1 100", "look 1;stop 32768*65536*65536*65536/earned<0");
        y.fine(1);
        due("the least number by -1", y.would(0, 4), 0);
    }

    private static void wouldRefused() {
        for (int outside : OUTSIDE_RULES) {
            States.refused(check, "would " + outside, x -> x.would(outside, 0), NO_COINS);
        }
        for (int what : new int[] {-1, 5, Integer.MIN_VALUE, Integer.MAX_VALUE}) {
            States.refused(check, "would 0 " + what, x -> x.would(0, what), NO_COINS);
        }
        for (int what = 0; what < 5; what++) {
            int asked = what;
            States.nothingHappens(check, "would 2 of two " + what, States::busy, x -> x.would(2, asked), NO_COINS);
            States.nothingHappens(check, "would 0 without a WORK " + what, States::withoutWork, x -> x.would(0, asked), NO_COINS);
        }
    }

    /** "What a DAY by a RULE would be (with DRAWS as they come)": and then so it is, on every state. */
    private static void wouldIsTheDay() {
        for (Supplier<PaidMistakes> state : List.<Supplier<PaidMistakes>>of(States::busy, States::full)) {
            int rules = state.get().count(2);
            for (int rule = 0; rule < rules; rule++) {
                PaidMistakes x = state.get();
                int[] would = new int[5];
                for (int what = 0; what < 5; what++) {
                    would[what] = x.would(rule, what);
                }
                int found = bits(x, 4, 1);
                int tries = bits(x, 5, 0);
                int coins = x.coins(0);
                int master = x.coins(1);
                due("coins", x.day(rule), would[0]);
                due("coins of the DAY", x.coins(0), coins + would[0]);
                due("found in it", bits(x, 4, 1) & ~found, would[1]);
                due("minutes left", x.count(3), would[2]);
                due("LOOKS", bits(x, 5, 0) - tries, would[4]);
                due("HIDDEN", x.dawn(), master + would[3]);
            }
        }
    }

    /** Of all faults: those where fault(f, what) is so much, as bits; or, for 0, what they tell together. */
    private static int bits(PaidMistakes x, int what, int sought) {
        int told = 0;
        for (int f = 0; f < x.count(0); f++) {
            int answer = x.fault(f, what);
            told += sought == 0 ? answer : answer == sought ? 1 << f : 0;
        }
        return told;
    }

    // ---- promises 24 and 25

    /** "NONE, and nothing happens, below 0." */
    private static void seeds() {
        for (int seed : new int[] {-1, -2, Integer.MIN_VALUE}) {
            States.refused(check, "seed " + seed, x -> x.seed(seed), -1);
        }
        PaidMistakes x = new PaidMistakes();
        int before = 0;
        for (int seed : new int[] {0, 1, 2147483646, 2147483647, 0}) {
            due("seed " + seed, x.seed(seed), before);
            due("x", x.count(7), seed);
            before = seed;
        }
    }

    /** "m times (1 to 20)"; "NONE without these, or a WORK." */
    private static void weeksRefused() {
        for (int m : new int[] {0, 21, -1, 22, Integer.MIN_VALUE, Integer.MAX_VALUE}) {
            States.refused(check, "weeks m " + m, x -> x.weeks(0, m, 0), -1);
        }
        for (int what : new int[] {-1, 3, Integer.MIN_VALUE, Integer.MAX_VALUE}) {
            States.refused(check, "weeks what " + what, x -> x.weeks(0, 1, what), -1);
        }
        for (int outside : OUTSIDE_RULES) {
            States.refused(check, "weeks " + outside, x -> x.weeks(outside, 1, 0), -1);
        }
        States.nothingHappens(check, "weeks 2 of two", States::busy, x -> x.weeks(2, 1, 0), -1);
        States.nothingHappens(check, "weeks 0 without a WORK", States::withoutWork, x -> x.weeks(0, 1, 0), -1);
    }

    private static void weeksMost() {
        PaidMistakes x = with("time 10;kind 99 3 1;kind 1 99 1" + ";fault 0 1 100".repeat(9) + ";fault 1 1 0", "look 1", "stop 1=1");
        for (int m : new int[] {1, 2, 19, 20}) {
            due("coins of " + m, x.weeks(0, m, 0), m * 6 * 9 * 99);
            due("found in " + m, x.weeks(0, m, 1), m * 6 * 9);
            due("HIDDEN in " + m, x.weeks(0, m, 2), m * 6 * 99);
            due("coins by a RULE that stops", x.weeks(1, m, 0), 0);
            due("HIDDEN by a RULE that stops", x.weeks(1, m, 2), m * 6 * 126);
        }
        x.mend(9);
        x.mend(0);
        x.look(1);
        x.fine(999);
        due("what is mended now; found is not", x.weeks(0, 20, 1), 960);
        due("each begun anew", x.weeks(0, 20, 0), 960 * 99);
        due("HIDDEN", x.weeks(0, 20, 2), 0);
        due("x is as it was", x.count(7), 12345);
        // The DRAWS go on from one DAY to the next, and begin with x as it is.
        PaidMistakes y = with("time 1;kind 1 0 1;fault 0 1 50", "look 1");
        long draw = 0;
        int found = 0;
        for (int day = 0; day < 120; day++) {
            draw = next(draw);
            found += draw / 65536 % 100 < 50 ? 1 : 0;
        }
        due("120 DRAWS", y.weeks(0, 20, 0), found);
    }
}

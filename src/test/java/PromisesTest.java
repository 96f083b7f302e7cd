/** Each promise of the document by answers reckoned by hand: ordinary ones, edges, and wrong inputs. */
public final class PromisesTest {
    /** 0: pay 10, 5 minutes, always seen; 1 under it: pay 4, 10 minutes, half; 2: pay 4, 6 minutes, never. */
    private static final String WORK = "time 20;kind 10 3 2;kind 4 8 1;fault 0 5 100;fault 1 10 50 under 0;fault 1 6 0";
    private static final int NO_COINS = -1000000;
    private static final Check check = new Check();

    public static void main(String[] args) {
        promise1();
        promises2And3();
        promise4();
        promise4Faults();
        promise5();
        promise5Faults();
        promises6And7();
        promise8();
        promises9To11();
        promise12();
        promise12Words();
        promise13();
        promises14To16();
        promise17();
        promise18();
        promises19To21();
        promise22();
        promise23();
        promise24();
        promise25();
        promises26And27();
        promises28And29();
        check.close("PromisesTest");
    }

    private static PaidMistakes with(String work, String... rules) {
        PaidMistakes x = new PaidMistakes();
        if (!work.isEmpty()) {
            check.holds("work is taken: " + work, Check.work(x, work) > 0);
        }
        for (int i = 0; i < rules.length; i++) {
            due("rule is taken: " + rules[i], Check.rule(x, rules[i]), i);
        }
        return x;
    }

    private static void due(String call, long got, long want) {
        check.due(call, got, want);
    }

    private static void promise1() {
        PaidMistakes x = new PaidMistakes();
        for (int what = 0; what <= 10; what++) {
            due("new: count " + what, x.count(what), 0);
        }
        for (int what = 0; what <= 2; what++) {
            due("new: coins " + what, x.coins(what), 0);
        }
        due("new: kind", x.kind(0, 0), -1);
        due("new: fault", x.fault(0, 0), -2);
        due("new: look", x.look(0), -1);
        due("new: fine", x.fine(0), NO_COINS);
        due("new: mend", x.mend(0), NO_COINS);
        due("new: dawn", x.dawn(), NO_COINS);
        due("new: day", x.day(0), NO_COINS);
        due("new: would", x.would(0, 0), NO_COINS);
        due("new: row", x.row(0), -2);
        due("new: row NONE", x.row(-1), 0);
        due("new: worth", x.worth(0), -1);
        due("new: seen", x.seen(0, 0), -1);
        due("new: best", x.best(0, 0), -1);
        due("new: master", x.master(0, 0), -1000000000000L);
        due("new: fits", x.fits(0, 0), -1);
        due("new: weeks", x.weeks(0, 1, 0), -1);
        due("new: back", x.back(0), -1);
    }

    private static void promises2And3() {
        PaidMistakes x = new PaidMistakes();
        due("end of an empty TAPE", x.end(0), 0);
        due("end beyond", x.end(1), -1);
        for (int i = 1; i <= 20; i++) {
            due("feed " + i, x.feed(0x20202020, -1, 0, 1, 2), 20 * i);
        }
        due("feed beyond 400", x.feed(0, 0, 0, 0, 0), -1);
        due("nothing came", x.count(8), 400);
        due("end below 0", x.end(-1), -1);
        due("end beyond 400", x.end(401), -1);
        due("nothing happened", x.count(8), 400);
        due("end at its length", x.end(400), 400);
        due("end 381", x.end(381), 381);
        due("feed to 401", x.feed(0, 0, 0, 0, 0), -1);
        due("end 380", x.end(380), 380);
        due("feed to 400", x.feed(0, 0, 0, 0, 0), 400);
        // The bytes come highest first, and only those that were not cut off.
        x.end(0);
        x.feed(0x6b696e64, 0x20312031, 0x20313b66, 0x61756c74, 0x20302031);
        x.feed(0x20313232, 0, 0, 0, 0);
        x.end(22);
        due("kind 1 1 1;fault 0 1 1", x.work(), 1);
    }

    private static void promise4() {
        PaidMistakes x = with(WORK, "look 0");
        due("TAPE is empty", x.count(8), 0);
        x.seed(0);
        x.game(0, 5);
        x.look(0);
        x.fine(3);
        x.mend(2);
        x.row(0);
        x.dawn();
        x.look(0);
        int draws = x.count(7);
        due("faulty", Check.work(x, "time 5"), Check.faulty(6, 0));
        due("TAPE is empty behind a fault", x.count(8), 0);
        due("all stays: faults", x.count(0), 3);
        due("all stays: found", x.count(4), 1);
        due("all stays: mended", x.count(5), 1);
        due("all stays: row", x.count(6), 1);
        due("all stays: days", x.count(9), 1);
        due("second WORK", Check.work(x, "kind 1 2 3 ; fault 0 1 100"), 1);
        due("60 minutes without time", x.count(10), 60);
        due("all minutes", x.count(3), 60);
        due("nothing found", x.count(4), 0);
        due("nothing mended", x.count(5), 0);
        due("an empty ROW", x.count(6), 0);
        due("x stays", x.count(7), draws);
        due("a first DAY", x.count(9), 0);
        for (int what = 0; what <= 2; what++) {
            due("without coins " + what, x.coins(what), 0);
        }
        due("no tries", x.fault(0, 5), 0);
        due("the GAME stays", x.game(0, 5), 5);
        due("RULES stay", x.count(2), 1);
        due("blanks", Check.work(x, "  kind1  2 3;fault0 1 100;fault 0 1 7under0  "), 2);
        due("under", x.fault(1, 3), 0);
        due("five digits", Check.work(x, "kind 00001 00002 00003;fault 00000 00099 00100;time 00480"), 1);
        due("time at the end", x.count(3), 480);
        String most = "time 1;" + Check.times("kind 0 99 0;", 6) + Check.times("fault 5 1 0;", 9) + "fault 5 99 0";
        due("6 KINDS, 10 FAULTS", Check.work(x, most), 10);
        due("KINDS", x.count(1), 6);
    }

    private static void faultyWork(String text, int place, int what) {
        due("work: " + text, Check.work(new PaidMistakes(), text), Check.faulty(place, what));
    }

    private static void promise4Faults() {
        String one = "kind 1 1 1;fault 0 1 1";
        faultyWork("", 0, 0);
        faultyWork("   ", 3, 0);
        faultyWork("time", 4, 0);
        faultyWork("time  ", 6, 0);
        faultyWork("time 0", 5, 1);
        faultyWork("time 481", 5, 1);
        faultyWork("time 000005", 5, 1);
        faultyWork("time 5", 6, 0);
        faultyWork("time 5 ", 7, 0);
        faultyWork("time 5;time 5", 7, 4);
        faultyWork("time x", 5, 0);
        faultyWork("time ;", 5, 0);
        faultyWork("timer 5", 0, 0);
        faultyWork("Time 5", 0, 0);
        faultyWork("kind 100 0 0", 5, 1);
        faultyWork("kind 1 100 0", 7, 1);
        faultyWork("kind 1 1 100", 9, 1);
        faultyWork("kind 1 1", 8, 0);
        faultyWork("kind 1 1 1", 10, 0);
        faultyWork("kind 1 1 -1", 9, 0);
        faultyWork("kind 1 1 1 1", 11, 0);
        faultyWork("fault 0 1 1", 6, 1);
        faultyWork("kind 1 1 1;fault 1 1 1", 17, 1);
        faultyWork("kind 1 1 1;fault 0 0 1", 19, 1);
        faultyWork("kind 1 1 1;fault 0 100 1", 19, 1);
        faultyWork("kind 1 1 1;fault 0 1 101", 21, 1);
        faultyWork(one + " under 0", 29, 1);
        faultyWork(one + " under", 28, 0);
        faultyWork(one + " x", 23, 0);
        faultyWork(one + ";", 23, 0);
        faultyWork(one + "; ;", 24, 0);
        faultyWork(one + (char) 0, 22, 0);
        faultyWork(one + ";fault 0 1 1 under 1", 41, 1);
        faultyWork("look 1", 0, 0);
        String kinds = Check.times("kind 1 1 1;", 6);
        faultyWork(kinds + "kind 1 1 1", kinds.length(), 4);
        String faults = "kind 1 1 1;" + Check.times("fault 0 1 1;", 10);
        faultyWork(faults + "fault 0 1 1", faults.length(), 4);
        // The TAPE's last byte is read, and the end behind it.
        faultyWork(Check.times(" ", 400), 400, 0);
        faultyWork(Check.times(" ", 399) + "?", 399, 0);
        faultyWork("kind 1 1 1;fault 0 1 1" + Check.times(" ", 377) + ";", 400, 0);
        due("400 bytes", Check.work(new PaidMistakes(), one + Check.times(" ", 378)), 1);
        due("the last byte tells", Check.work(new PaidMistakes(), Check.times(" ", 378) + one), 1);
        // 24 CLAUSES can never stand: a time, 6 KINDS and 10 FAULTS are 17.
        faultyWork(kinds + Check.times("fault 0 1 1;", 10) + "time 1;time 1", 66 + 120 + 7, 4);
    }

    private static void promise5() {
        PaidMistakes x = new PaidMistakes();
        for (int i = 0; i < 6; i++) {
            due("a faulty rule is none", Check.rule(x, "look"), Check.faulty(4, 0));
            due("TAPE is empty behind a fault", x.count(8), 0);
            due("rule " + i, Check.rule(x, "look " + i), i);
            due("RULES", x.count(2), i + 1);
            due("TAPE is empty", x.count(8), 0);
        }
        Check.tell(x, "look 1");
        due("a seventh", x.rule(), -1);
        due("nothing happens", x.count(8), 6);
        due("RULES", x.count(2), 6);
    }

    private static void faultyRule(String text, int place, int what) {
        due("rule: " + text, Check.rule(new PaidMistakes(), text), Check.faulty(place, what));
    }

    private static void goodRule(String text) {
        due("rule: " + text, Check.rule(new PaidMistakes(), text), 0);
    }

    private static void promise5Faults() {
        faultyRule("", 0, 0);
        faultyRule("look", 4, 0);
        faultyRule("look 1 if", 9, 0);
        faultyRule("stop", 4, 0);
        faultyRule("stop 1", 6, 0);
        faultyRule("looks 1", 0, 0);
        faultyRule("look x", 5, 0);
        faultyRule("look 1;", 7, 0);
        faultyRule("stop pay = 1]", 12, 0);
        faultyRule("stop [pay = 1", 13, 0);
        faultyRule("stop [pay = 1;look 1", 13, 0);
        faultyRule("stop [pay]", 9, 0);
        faultyRule("look 123456", 5, 1);
        faultyRule("look 1 123456", 7, 0);
        faultyRule("look payif 1 = 1", 5, 0);
        faultyRule("look pay pay", 9, 0);
        faultyRule("look -1", 5, 0);
        faultyRule("look 1 < 2", 7, 0);
        faultyRule("look not 1", 5, 0);
        faultyRule("stop 1 < = 2", 9, 0);
        faultyRule("stop 1 =< 2", 8, 0);
        faultyRule("stop 1 = 1 = 1", 11, 0);
        faultyRule("stop 1 = 1 or", 13, 0);
        faultyRule("stop 1 = 1 not 2 = 2", 11, 0);
        faultyRule("look time", 5, 0);
        faultyRule("time 5", 0, 0);
        faultyRule("look 1 if 1 = 1 if 1 = 1", 16, 0);
        faultyRule("look\t1", 4, 0);
        goodRule("look" + Check.times(" ", 395) + "1");
        faultyRule(Check.times("[", 400), 0, 0);
        goodRule("look 99999*pay/odds-minutes+left");
        goodRule("  stop not[fault<=1or kind>=2and[found=3]]and tries>4 or earned<5 ; look 1if 2>1 ");
        depths();
        pieces();
        clauses();
    }

    private static void depths() {
        goodRule("stop " + Check.times("[", 10) + "1=1" + Check.times("]", 10));
        goodRule("stop " + Check.times("not ", 10) + "1=1 and " + Check.times("not ", 10) + "1=1");
        faultyRule("stop " + Check.times("[", 11) + "1=1", 15, 2);
        faultyRule("stop " + Check.times("not ", 11) + "1=1", 45, 2);
        faultyRule("stop " + Check.times("not[", 5) + " not 1=1", 26, 2);
        faultyRule("stop [1=1] and " + Check.times("[", 11), 25, 2);
    }

    private static void pieces() {
        goodRule("look 1" + Check.times("+1", 59));
        faultyRule("look 1" + Check.times("+1", 60), 5 + 120, 3);
        faultyRule("look 1" + Check.times("+1", 59) + "+x", 5 + 120, 0);
        faultyRule("look 1" + Check.times("+1", 59) + "+123456", 5 + 120, 1);
        faultyRule("look 1" + Check.times("+1", 59) + "+", 5 + 120, 0);
        goodRule("stop 1=1" + Check.times("or 1=1", 19));
        faultyRule("stop 1=1" + Check.times("or 1=1", 19) + "or 1", 8 + 6 * 19 + 3, 3);
        faultyRule("look 1" + Check.times("+1", 58) + "if 1<=1", 122 + 4, 3);
        faultyRule("look 1" + Check.times("+1", 57) + "if 1<=1", 120 + 6, 3);
        // The count goes over all CLAUSES.
        faultyRule("look 1" + Check.times("+1", 59) + ";look 1", 124 + 6, 3);
    }

    private static void clauses() {
        goodRule("look 1" + Check.times(";look 1", 11));
        faultyRule("look 1" + Check.times(";look 1", 11) + "; stop 1=1", 6 + 77 + 2, 4);
        faultyRule("look 1" + Check.times(";look 1", 11) + "; x", 6 + 77 + 2, 0);
        faultyRule("look 1" + Check.times(";look 1", 11) + ";", 6 + 77 + 1, 0);
    }

    private static void promises6And7() {
        PaidMistakes x = with(WORK);
        int[][] kinds = {{10, 3, 2}, {4, 8, 1}};
        for (int k = 0; k < 2; k++) {
            for (int what = 0; what < 3; what++) {
                due("kind " + k + " " + what, x.kind(k, what), kinds[k][what]);
            }
        }
        due("kind 2", x.kind(2, 0), -1);
        due("kind -1", x.kind(-1, 0), -1);
        due("kind what 3", x.kind(0, 3), -1);
        due("kind what -1", x.kind(0, -1), -1);
        int[][] faults = {{0, 5, 100, -1, 0, 0, 1}, {1, 10, 50, 0, 0, 0, 0}, {1, 6, 0, -1, 0, 0, 1}};
        for (int f = 0; f < 3; f++) {
            for (int what = 0; what < 7; what++) {
                due("fault " + f + " " + what, x.fault(f, what), faults[f][what]);
            }
        }
        due("fault 3", x.fault(3, 0), -2);
        due("fault -1", x.fault(-1, 0), -2);
        due("fault what 7", x.fault(0, 7), -2);
        due("fault what -1", x.fault(0, -1), -2);
        x.look(2);
        x.look(0);
        x.mend(2);
        due("found", x.fault(0, 4), 1);
        due("found is not OPEN", x.fault(0, 6), 0);
        due("under a found one is OPEN", x.fault(1, 6), 1);
        due("mended", x.fault(2, 4), 2);
        due("mended is not OPEN", x.fault(2, 6), 0);
        due("tries", x.fault(2, 5), 1);
        x.dawn();
        due("not found any more", x.fault(0, 4), 0);
        due("mended stays", x.fault(2, 4), 2);
        due("no tries any more", x.fault(2, 5), 0);
        due("hidden again", x.fault(1, 6), 0);
        x.mend(0);
        due("under a mended one is OPEN", x.fault(1, 6), 1);
    }

    private static void promise8() {
        // From x = 0 the DRAWS mod 100 are 0, 68, 88, 17.
        PaidMistakes x = with("time 30;kind 7 1 1;fault 0 4 68;fault 0 5 68;fault 0 6 100 under 1;fault 0 9 100");
        due("hidden", x.look(2), -2);
        due("nothing happened", x.count(7), 0);
        due("0 is below 68", x.look(0), 1);
        due("its pay", x.coins(0), 7);
        due("its minutes", x.count(3), 26);
        due("x", x.count(7), 12345);
        due("found already", x.look(0), -2);
        due("68 is not below 68", x.look(1), 0);
        due("minutes go", x.count(3), 21);
        due("a try", x.fault(1, 5), 1);
        due("88", x.look(1), 0);
        due("17", x.look(1), 1);
        due("three tries", x.fault(1, 5), 3);
        due("no fault 4", x.look(4), -1);
        due("no fault -1", x.look(-1), -1);
        due("the last minutes but 5", x.look(2), 1);
        due("minutes left", x.count(3), 5);
        int draws = x.count(7);
        due("9 minutes are not left", x.look(3), -3);
        due("nothing happened", x.count(7), draws);
        due("no try", x.fault(3, 5), 0);
        due("minutes left", x.count(3), 5);
    }

    private static void promises9To11() {
        PaidMistakes x = with(WORK);
        due("fine 0", x.fine(0), 0);
        due("fine 999", x.fine(999), -999);
        due("fine 1000", x.fine(1000), NO_COINS);
        due("fine -1", x.fine(-1), NO_COINS);
        due("look", x.look(0), 1);
        due("coins", x.coins(0), -989);
        due("mend a found one", x.mend(0), NO_COINS);
        due("mend", x.mend(2), -1);
        due("mend again", x.mend(2), NO_COINS);
        due("mend none", x.mend(3), NO_COINS);
        due("mend -1", x.mend(-1), NO_COINS);
        due("dawn: only fault 1 stayed", x.dawn(), 7);
        due("no coins", x.coins(0), 0);
        due("coins of DAYS that are over", x.coins(2), -989);
        due("all minutes", x.count(3), 20);
        due("DAYS", x.count(9), 1);
        due("mend a hidden one", x.mend(1), 6);
        due("dawn: only fault 0 stayed", x.dawn(), 9);
        due("mend it now", x.mend(0), 7);
        due("dawn: nothing stayed", x.dawn(), 7);
        due("DAYS", x.count(9), 3);
        due("mended", x.count(5), 3);
    }

    private static void promise12() {
        // DRAWS from x = 0: 0, 68, 88, 17, 98, 27, 45, 41.
        PaidMistakes x = with("time 40;kind 10 1 1;kind 3 2 1;fault 0 5 60;fault 1 6 60;fault 1 6 60",
            "look minutes", "look 0-pay;stop tries>0", "stop odds<60;look 1if kind=1", "look 1 if pay > 50;look 2 if kind = 1",
            "stop 1=1", "look 5 - fault");
        due("rule 6", x.day(6), NO_COINS);
        due("rule -1", x.day(-1), NO_COINS);
        // 0 found; then 1 (of as many minutes the least): missed, missed, found by 17; 2 missed, found by 27.
        due("day 0", x.day(0), 16);
        due("minutes", x.count(3), 40 - 5 - 18 - 12);
        due("x", x.count(7), 1109335178);
        due("tries of 1", x.fault(1, 5), 3);
        due("day by none", x.day(0), 0);
        x.dawn();
        x.seed(0);
        x.look(1);
        due("coins earned in it alone: 0 is missed, and tried already", x.day(1), 0);
        due("one try", x.fault(0, 5), 1);
        due("no try of others", x.fault(2, 5), 0);
        x.dawn();
        x.seed(0);
        due("those of KIND 1 alone", x.day(2), 6);
        due("0 was not looked for", x.fault(0, 5), 0);
        x.dawn();
        x.seed(0);
        due("the first clause whose TEST holds", x.day(3), 6);
        x.dawn();
        due("without a look CLAUSE", x.day(4), 0);
        x.dawn();
        x.seed(0);
        due("the least SUM is that of the last", x.day(5), 3 + 3 + 10);
        manyLooks();
    }

    private static void manyLooks() {
        PaidMistakes x = with("time 480;kind 9 1 1;fault 0 1 0", "look 1", "look 1;stop tries = 3");
        due("never found", x.day(0), 0);
        due("200 LOOKS", x.fault(0, 5), 200);
        due("minutes", x.count(3), 280);
        due("80 minutes are left then", x.day(0), 0);
        due("400 LOOKS", x.fault(0, 5), 400);
        x.day(0);
        due("no minutes", x.count(3), 0);
        x.dawn();
        x.day(1);
        due("stops by its TEST", x.fault(0, 5), 3);
    }

    /** How often the one fault was looked for before the TEST stopped it: once for each time it does not hold. */
    private static void stops(String test, int tries) {
        PaidMistakes x = with("time 7;kind 33 1 1;kind 11 1 1;fault 0 1 100;fault 1 2 0", "look fault;stop " + test);
        x.day(0);
        due("looks until " + test, x.fault(0, 5) + x.fault(1, 5), tries);
    }

    private static void promise12Words() {
        stops("1=2", 4);
        stops("1=1", 0);
        stops("fault=1", 1);
        stops("kind=1", 1);
        stops("pay=11", 1);
        stops("pay=33", 0);
        stops("odds=0", 1);
        stops("minutes=2", 1);
        stops("left=4", 2);
        stops("left<=4", 2);
        stops("left<4", 3);
        stops("found=1", 1);
        stops("tries=2", 3);
        stops("tries>=2", 3);
        stops("tries>1", 3);
        stops("earned=33", 1);
        stops("1+2*3=7", 0);
        stops("2*3+1=7", 0);
        stops("9-4-3=2", 0);
        stops("9-4+3=8", 0);
        stops("9/2*2=8", 0);
        stops("0-9/2=0-4", 0);
        stops("7/0=0", 0);
        stops("0-7+3*2*2/5-1=0-6", 0);
        stops("tries-9>tries*2-9", 4);
        stops("99999*99999*99999*99999<0", 4);
        stops("99999*99999*99999*99999*99999<0", 0);
        stops("1=1 or 1=2 and 1=2", 0);
        stops("1=2 and 1=2 or 1=1", 0);
        stops("[1=1 or 1=2] and 1=2", 4);
        stops("not 1=2", 0);
        stops("not 1=2 and 1=2", 4);
        stops("not [1=2 and 1=2]", 0);
        stops("not not 1=1", 0);
        stops("1=2;stop 1=1", 0);
        stops("1=2 or 2=1 or 1=1 and 2=2 or 3=1", 0);
    }

    private static void promise13() {
        PaidMistakes x = with("time 40;kind 10 1 1;kind 3 2 1;fault 0 5 60;fault 1 6 60;fault 1 6 60",
            "look minutes", "look minutes;stop found=1");
        int[] first = {16, 7, 5, 0, 6};
        int[] second = {10, 1, 35, 4, 1};
        for (int what = 0; what < 5; what++) {
            due("would 0 " + what, x.would(0, what), first[what]);
            due("would 1 " + what, x.would(1, what), second[what]);
        }
        due("nothing changes", x.count(7) + x.count(4) + x.coins(0) + x.fault(0, 5), 0);
        due("minutes stay", x.count(3), 40);
        due("what 5", x.would(0, 5), NO_COINS);
        due("what -1", x.would(0, -1), NO_COINS);
        due("rule 2", x.would(2, 0), NO_COINS);
        due("rule -1", x.would(-1, 0), NO_COINS);
        // From where it is now: 0 is found already and 1 mended; 2 is missed by 68, 88 and found by 17.
        x.look(0);
        x.mend(1);
        x.fine(5);
        int[] third = {3, 4, 17, 0, 3};
        for (int what = 0; what < 5; what++) {
            due("would from now " + what, x.would(0, what), third[what]);
        }
        due("and so it is", x.day(0), 3);
        due("coins", x.coins(0), 8);
    }

    private static void promises14To16() {
        PaidMistakes x = with(WORK);
        due("empty", x.worth(0), 0);
        due("empty below", x.worth(1), 1);
        due("row 3", x.row(3), -2);
        due("row -2", x.row(-2), -2);
        due("row 1", x.row(1), 1);
        due("row 0", x.row(0), 2);
        due("1 is hidden at first", x.worth(0), 10);
        due("row 1", x.row(1), 3);
        due("worth 10 + 4/2", x.worth(0), 12);
        due("below", x.worth(1), 1);
        due("seen 0", x.seen(0, 0), 1);
        due("seen 0 below", x.seen(0, 1), 1);
        due("seen 1", x.seen(1, 0), 1);
        due("seen 1 below", x.seen(1, 1), 2);
        due("seen 2", x.seen(2, 0), 0);
        due("seen 2 below", x.seen(2, 1), 1);
        due("row 1: its minutes are not left", x.row(1), 4);
        due("worth", x.worth(0), 12);
        due("worth part 2", x.worth(2), -1);
        due("worth part -1", x.worth(-1), -1);
        due("seen part 2", x.seen(0, 2), -1);
        due("seen fault 3", x.seen(3, 0), -1);
        due("seen fault -1", x.seen(-1, 0), -1);
        x.look(0);
        due("from now", x.worth(0), 2);
        due("seen, as it was found", x.seen(0, 0), 1);
        due("x is as it was", x.count(7), 12345);
        x.mend(1);
        due("mended is never seen", x.seen(1, 0), 0);
        for (int i = 5; i <= 8; i++) {
            due("row " + i, x.row(2), i);
        }
        due("a ninth", x.row(2), -2);
        due("row has", x.count(6), 8);
        due("row NONE", x.row(-1), 0);
        due("row has none", x.count(6), 0);
        greatFractions();
    }

    private static void greatFractions() {
        PaidMistakes x = with("kind 99 1 1" + Check.times(";fault 0 1 99", 8));
        for (int f = 0; f < 8; f++) {
            x.row(f);
        }
        due("8 * 99 * 99 / 100", x.worth(0), 19602);
        due("below", x.worth(1), 25);
        x.row(-1);
        for (int i = 0; i < 8; i++) {
            x.row(3);
        }
        due("1 - 1 / 100^8", x.seen(3, 0), 9999999999999999L);
        due("below 10^16", x.seen(3, 1), 10000000000000000L);
        due("99 times that", x.worth(0), 989999999999999901L);
        due("below 10^16", x.worth(1), 10000000000000000L);
    }

    private static void promise17() {
        PaidMistakes x = with(WORK);
        due("n 0", x.best(0, 0), 0);
        due("n 0 below", x.best(0, 1), 1);
        due("n 0: none", x.best(0, 2), -2);
        due("n 1", x.best(1, 0), 10);
        due("n 1: fault 0", x.best(1, 2), 0);
        due("n 2", x.best(2, 0), 12);
        due("n 5", x.best(5, 0), 12);
        due("n 6", x.best(6, 0), -1);
        due("n -1", x.best(-1, 0), -1);
        due("part 3", x.best(1, 3), -1);
        due("part -1", x.best(1, -1), -1);
        x.look(0);
        due("then 1 alone: one LOOK", x.best(5, 0), 2);
        due("then 1", x.best(5, 2), 1);
        x.look(1);
        due("5 minutes left: nothing", x.best(5, 2), -2);
        due("nothing", x.best(5, 0), 0);
        // By patience: 8 times half, or 5 for sure; with two LOOKS 5 + 4 is more than 8 * 3/4.
        PaidMistakes y = with("time 3;kind 8 0 0;kind 5 0 0;fault 0 1 50;fault 1 1 100");
        due("one LOOK", y.best(1, 0), 5);
        due("one LOOK: 1", y.best(1, 2), 1);
        due("two LOOKS: of several the least", y.best(2, 2), 0);
        due("two LOOKS", y.best(2, 0), 9);
        due("three LOOKS", y.best(3, 0), 11);
        // A LOOK that finds nothing is as good, where one is to spare: of several the least FAULT.
        PaidMistakes z = with("kind 8 0 0;fault 0 1 0;fault 0 1 100");
        due("no LOOK to spare", z.best(1, 2), 1);
        due("one to spare", z.best(2, 2), 0);
        due("8", z.best(2, 0), 8);
        // As those ahead of it came out: 20 under one of 3 in 10; else 3 for sure.
        PaidMistakes w = with("time 2;kind 0 0 0;kind 20 0 0;kind 3 0 0;fault 0 1 30;fault 1 1 100 under 0;fault 2 1 100");
        due("30/100 * 20 + 70/100 * 3", w.best(2, 0), 81);
        due("below 10", w.best(2, 1), 10);
    }

    private static void promise18() {
        PaidMistakes x = with(WORK);
        due("nothing is looked for: all stays", x.master(0, 0), 19);
        due("below", x.master(0, 1), 1);
        due("no set", x.master(0, 2), 0);
        due("fault 0 is found", x.master(1, 0), 16);
        due("n 2: 0, and 1 by half", x.master(2, 0), 12);
        due("n 5", x.master(5, 0), -1000000000000L);
        due("n -1", x.master(-1, 0), -1000000000000L);
        due("part 3", x.master(1, 3), -1000000000000L);
        due("part -1", x.master(1, -1), -1000000000000L);
        // To mend 0 (at 1) opens 1: the apprentice, who has time for one, looks for that, which hides less than 2.
        PaidMistakes y = with("time 1;kind 1 0 1;kind 9 2 50;kind 5 40 50;fault 0 1 100;fault 1 1 90 under 0;fault 2 1 100");
        due("mends 0", y.master(1, 2), 1);
        due("40 + 2/10 - 1", y.master(1, 0), 196);
        due("below", y.master(1, 1), 5);
        y.mend(0);
        due("and then nothing", y.master(1, 2), 0);
        due("40 + 2/10", y.master(1, 0), 201);
        mastersTies();
    }

    private static void mastersTies() {
        // To mend 0 is free: as good is not mended.
        PaidMistakes x = with("kind 0 0 0;fault 0 1 100;fault 0 1 100");
        due("of several the fewest", x.master(2, 2), 0);
        // 0 and 1 (free) each open one that draws the apprentice away from 4: the least as bits of two as good.
        PaidMistakes y = with("time 1;kind 0 0 0;kind 9 0 99;kind 5 40 99;fault 0 1 0;fault 0 1 0;"
            + "fault 1 1 100 under 0;fault 1 1 100 under 1;fault 2 1 100");
        due("the least as bits", y.master(1, 2), 1);
        due("all stays", y.master(1, 0), 40);
        // Only the six least could be mended: the one that would help is the seventh.
        PaidMistakes z = with("time 1;kind 0 0 0;kind 9 0 99;kind 5 40 99;" + Check.times("fault 0 1 0;", 7)
            + "fault 1 1 100 under 6;fault 2 1 100");
        due("it is not among the six", z.master(1, 2), 0);
        due("4 is found", z.master(1, 0), 0);
        z.mend(3);
        due("now it is", z.master(1, 2), 64);
        due("all stays", z.master(1, 0), 40);
    }

    private static void tellGame(PaidMistakes x, int... numbers) {
        for (int i = 0; i < 8; i++) {
            x.game(i, numbers[i]);
        }
    }

    private static void promises19To21() {
        PaidMistakes x = new PaidMistakes();
        due("all 0: all rest", x.rests(), 15);
        due("mixed: there is a REST", x.mixed(0, 0), -2);
        due("game", x.game(7, 99), 0);
        due("game again", x.game(7, -99), 99);
        due("game -100", x.game(7, -100), -1000);
        due("game 100", x.game(7, 100), -1000);
        due("place 8", x.game(8, 0), -1000);
        due("place -1", x.game(-1, 0), -1000);
        due("nothing happened", x.game(7, 0), -99);
        tellGame(x, 3, 0, 5, 1, 3, 5, 0, 1);
        due("both would rather not", x.rests(), 8);
        tellGame(x, 2, 0, 0, 1, 1, 0, 0, 2);
        due("two that rest", x.rests(), 9);
        tellGame(x, 0, 5, 1, 1, 0, 0, 0, 5);
        due("as good is not left", x.rests(), 2);
        // The master would hide if none looks (2) and show if one looks; the other one looks if he hides.
        tellGame(x, -3, 2, 0, 0, 4, 0, -1, 0);
        due("none rests", x.rests(), 0);
        due("hides 1 in 5", x.mixed(0, 0), 1);
        due("of 5", x.mixed(0, 1), 5);
        due("looks 2 in 5", x.mixed(1, 0), 2);
        due("of 5", x.mixed(1, 1), 5);
        due("what 2", x.mixed(2, 0), -1);
        due("what -1", x.mixed(-1, 0), -1);
        due("part 2", x.mixed(0, 2), -1);
        due("part -1", x.mixed(0, -1), -1);
        // The same the other way round, and in lowest terms: the differences are below 0.
        tellGame(x, 6, 0, 0, 4, -8, 0, 2, 0);
        due("none rests", x.rests(), 0);
        due("hides 2 of 10", x.mixed(0, 0), 1);
        due("lowest", x.mixed(0, 1), 5);
        due("looks 4 of 10", x.mixed(1, 0), 2);
        due("lowest", x.mixed(1, 1), 5);
    }

    private static void promise22() {
        PaidMistakes x = new PaidMistakes();
        due("no gain", x.checks(0, 0), 0);
        due("no fine", x.checks(1, 0), 100);
        due("alike", x.checks(5, 5), 50);
        due("1 to 2", x.checks(1, 2), 34);
        due("1 to 3", x.checks(1, 3), 25);
        due("1 to 99", x.checks(1, 99), 1);
        due("1 to 98", x.checks(1, 98), 2);
        due("most", x.checks(9999, 9999), 50);
        due("most to 1", x.checks(9999, 1), 100);
        due("gain 10000", x.checks(10000, 1), -1);
        due("gain -1", x.checks(-1, 1), -1);
        due("fine 10000", x.checks(1, 10000), -1);
        due("fine -1", x.checks(1, -1), -1);
    }

    private static void promise23() {
        PaidMistakes x = with("time 15;kind 10 0 0;kind 4 0 0;fault 0 5 100;fault 1 10 50 under 0;fault 1 6 0;fault 1 8 1;fault 0 16 9");
        due("10: the first alone", x.fits(10, 0), 1);
        due("in all", x.fits(10, 1), 1);
        due("in none", x.fits(10, 2), 30);
        due("14: with the second, or with the fourth", x.fits(14, 0), 2);
        due("in all", x.fits(14, 1), 1);
        due("in none: never seen, or too long", x.fits(14, 2), 4 + 16);
        due("4: the second is hidden", x.fits(4, 0), 1);
        due("in all", x.fits(4, 1), 8);
        due("0: no fault", x.fits(0, 0), 1);
        due("in all", x.fits(0, 1), 0);
        due("in none", x.fits(0, 2), 31);
        due("18: the time is not enough", x.fits(18, 0), 0);
        due("in all", x.fits(18, 1), 0);
        due("in none", x.fits(18, 2), 0);
        due("9999", x.fits(9999, 0), 0);
        due("10000", x.fits(10000, 0), -1);
        due("-1", x.fits(-1, 0), -1);
        due("what 3", x.fits(0, 3), -1);
        due("what -1", x.fits(0, -1), -1);
        x.look(0);
        due("from the DAY's begin", x.fits(14, 0), 2);
        x.dawn();
        x.mend(0);
        due("mended: the second is OPEN", x.fits(4, 0), 2);
        due("in none", x.fits(4, 2), 1 + 4 + 16);
        due("the first can't be found", x.fits(10, 0), 0);
    }

    private static void promise24() {
        PaidMistakes x = new PaidMistakes();
        due("0 at first", x.seed(2147483647), 0);
        due("below 0", x.seed(-1), -1);
        due("nothing happened", x.count(7), 2147483647);
        Check.work(x, "kind 1 1 1;fault 0 1 30");
        due("29 is below 30", x.look(0), 1);
        due("the next x", x.seed(0), 1043980748);
        due("without a WORK, too", new PaidMistakes().seed(9), 0);
    }

    private static void promise25() {
        // One LOOK a DAY by 50 in 100. DRAWS from 0: 0, 68, 88, 17, 98, 27; 45, 41, 22, 10, 61, 52.
        PaidMistakes x = with("time 5;kind 6 7 1;kind 1 2 1;fault 0 5 50;fault 1 6 100", "look 1");
        due("coins", x.weeks(0, 1, 0), 18);
        due("found", x.weeks(0, 1, 1), 3);
        due("hidden: 3 times 7, 6 times 2", x.weeks(0, 1, 2), 33);
        due("two weeks: coins", x.weeks(0, 2, 0), 42);
        due("two weeks: found", x.weeks(0, 2, 1), 7);
        due("two weeks: hidden", x.weeks(0, 2, 2), 35 + 24);
        due("nothing changes", x.count(7), 0);
        due("nothing changes", x.count(3), 5);
        x.look(0);
        x.fine(100);
        x.seed(0);
        due("each begun anew", x.weeks(0, 1, 0), 18);
        x.mend(1);
        due("what is mended", x.weeks(0, 1, 2), 21);
        due("m 0", x.weeks(0, 0, 0), -1);
        due("m 21", x.weeks(0, 21, 0), -1);
        check.holds("m 20", x.weeks(0, 20, 1) > 7);
        due("what 3", x.weeks(0, 1, 3), -1);
        due("what -1", x.weeks(0, 1, -1), -1);
        due("rule 1", x.weeks(1, 1, 0), -1);
        due("rule -1", x.weeks(-1, 1, 0), -1);
    }

    private static void promises26And27() {
        PaidMistakes x = with(WORK, "look 1", "look 2");
        x.look(0);
        x.mend(2);
        x.dawn();
        x.look(0);
        x.row(0);
        x.row(1);
        x.feed(0, 0, 0, 0, 0);
        x.seed(77);
        int[] counts = {3, 2, 2, 15, 1, 1, 2, 77, 20, 1, 20};
        for (int what = 0; what < counts.length; what++) {
            due("count " + what, x.count(what), counts[what]);
        }
        due("count 11", x.count(11), -1);
        due("count -1", x.count(-1), -1);
        due("coins 0", x.coins(0), 10);
        due("coins 1", x.coins(1), 8 - 1);
        due("coins 2", x.coins(2), 10);
        due("coins 3", x.coins(3), NO_COINS);
        due("coins -1", x.coins(-1), NO_COINS);
    }

    private static void promises28And29() {
        PaidMistakes x = new PaidMistakes();
        due("image 4", x.image(4), -1);
        due("image -1", x.image(-1), -1);
        due("back 4", x.back(4), -1);
        due("back -1", x.back(-1), -1);
        due("never made", x.back(0), -1);
        due("image without a WORK", x.image(3), 0);
        Check.work(x, WORK);
        Check.rule(x, "look 1");
        x.seed(5);
        x.game(0, 9);
        x.look(0);
        x.mend(2);
        x.dawn();
        x.look(0);
        x.row(0);
        x.row(1);
        due("image", x.image(0), 1);
        int[] counts = new int[11];
        for (int what = 0; what <= 10; what++) {
            counts[what] = x.count(what);
        }
        x.row(-1);
        x.row(2);
        x.dawn();
        x.mend(1);
        x.game(0, 1);
        x.fine(7);
        x.best(3, 0);
        Check.rule(x, "look 2");
        Check.work(x, "kind 1 1 1;fault 0 1 1");
        x.dawn();
        x.feed(0, 0, 0, 0, 0);
        due("another image", x.image(1), 1);
        due("back", x.back(0), 1);
        counts[2] = 2;
        counts[8] = 20;
        for (int what = 0; what <= 10; what++) {
            due("as it was: count " + what, x.count(what), counts[what]);
        }
        due("coins 0", x.coins(0), 10);
        due("coins 1", x.coins(1), 7);
        due("coins 2", x.coins(2), 10);
        due("the ROW", x.worth(0), 2);
        due("the GAME", x.game(0, 3), 9);
        due("tries", x.fault(0, 5), 1);
        due("BEST is the old WORK's", x.best(1, 0), 2);
        x.look(1);
        due("an image stays as it was", x.back(0), 1);
        due("no try", x.fault(1, 5), 0);
        due("the GAME again", x.game(0, 9), 9);
        due("back to the other", x.back(1), 1);
        due("its WORK", x.count(0), 1);
        due("back to none", x.back(3), 0);
        due("no WORK", x.count(0), 0);
        due("no WORK: dawn", x.dawn(), NO_COINS);
        due("x of then", x.count(7), 0);
    }
}

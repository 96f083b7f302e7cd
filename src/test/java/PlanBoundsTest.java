import java.util.Arrays;

/**
 * The boundaries that part III of the Terms and the promises 14 to 23 and 26 to 29 name, for what is asked, the
 * GAME and the IMAGES: the last that is allowed, the first that is refused, and that what is refused, or only
 * asked, changes nothing.
 */
public final class PlanBoundsTest {
    private static final int NO_COINS = -1000000;
    private static final long NO_MEAN = -1000000000000L;
    private static final int[] OUTSIDE_FAULTS = {-1, 10, -2, 11, Integer.MIN_VALUE, Integer.MAX_VALUE};
    private static final int[] OUTSIDE_PARTS = {-1, 2, Integer.MIN_VALUE, Integer.MAX_VALUE};
    private static final int[] OUTSIDE_THREE = {-1, 3, Integer.MIN_VALUE, Integer.MAX_VALUE};
    private static final Check check = new Check();

    public static void main(String[] args) {
        asking();
        rows();
        rowRefused();
        rowMinutes();
        seen();
        seenRefused();
        worthRefused();
        best();
        bestOfOtherWorks();
        bestStops();
        bestRefused();
        master();
        sixToMend();
        allToMend();
        allThatMayBeMended();
        masterTies();
        masterRefused();
        games();
        rests();
        mixed();
        mixedRefused();
        checks();
        checksRefused();
        fits();
        fitsTogether();
        fitsRefused();
        counts();
        images();
        imagesRefused();
        imagesKeep();
        check.close("PlanBoundsTest");
    }

    private static void due(String call, long got, long want) {
        check.due(call, got, want);
    }

    private static PaidMistakes with(String work) {
        PaidMistakes x = new PaidMistakes();
        check.holds("taken: " + work, Check.work(x, work) > 0);
        return x;
    }

    private static void fraction(String name, long above, long below, long dueAbove, long dueBelow) {
        due(name + ": above", above, dueAbove);
        due(name + ": below", below, dueBelow);
    }

    // ---- "By what is asked nothing changes; x, too, is as it was."

    private static void asking() {
        PaidMistakes[] asked = {States.empty(), States.withoutWork(), States.busy(), States.full()};
        PaidMistakes[] twins = {States.empty(), States.withoutWork(), States.busy(), States.full()};
        for (int i = 0; i < 4; i++) {
            askAll(asked[i]);
            States.same(check, "asked for all on state " + i, asked[i], twins[i]);
        }
    }

    private static void askAll(PaidMistakes x) {
        for (int part = 0; part < 3; part++) {
            x.worth(part);
            for (int n = 0; n <= 5; n++) {
                x.best(n, part);
                x.master(n, part);
            }
            x.fits(14, part);
            x.weeks(0, 20, part);
            x.coins(part);
            for (int what = 0; what < 5; what++) {
                x.would(part, what);
            }
        }
        for (int fault = 0; fault < 5; fault++) {
            x.seen(fault, 0);
            x.seen(fault, 1);
            x.fault(fault, 6);
        }
        for (int what = 0; what <= 10; what++) {
            x.count(what);
        }
        x.rests();
        x.mixed(0, 0);
        x.mixed(1, 1);
        x.checks(5, 7);
        x.kind(0, 0);
    }

    // ---- promises 14 to 16: the ROW

    /** "8 LOOKS at most, told (FAULTS, any number of times)". */
    private static void rows() {
        PaidMistakes x = with("time 480;kind 1 1 1" + ";fault 0 1 100".repeat(10));
        due("NONE of none", x.row(-1), 0);
        for (int i = 1; i <= 8; i++) {
            due("row " + i, x.row(10 - i), i);
            due("has", x.count(6), i);
            due("worth", x.worth(0), i);
        }
        due("a ninth", x.row(0), -2);
        due("has", x.count(6), 8);
        due("0 and 1 are not in it", x.seen(0, 0) + x.seen(1, 0), 0);
        due("2 is the eighth", x.seen(2, 0), 1);
        due("NONE", x.row(-1), 0);
        due("has none", x.count(6), 0);
        due("NONE again", x.row(-1), 0);
        for (int i = 1; i <= 8; i++) {
            due("the same again", x.row(9), i);
        }
        due("a ninth", x.row(9), -2);
        due("found once", x.worth(0), 1);
        x.row(-1);
        x.look(3);
        x.mend(4);
        due("one that was found", x.row(3), 1);
        due("one that was mended", x.row(4), 2);
        fraction("both are left out", x.worth(0), x.worth(1), 0, 1);
        x.dawn();
        due("the ROW stays over the night", x.count(6), 2);
        due("now the first is there", x.worth(0), 1);
    }

    /** "-2, and nothing happens, without it, or if it has 8." */
    private static void rowRefused() {
        for (int outside : new int[] {-2, 10, -3, 11, Integer.MIN_VALUE, Integer.MAX_VALUE}) {
            States.refused(check, "row " + outside, x -> x.row(outside), -2);
        }
        States.nothingHappens(check, "row 5 of five", States::busy, x -> x.row(5), -2);
        States.nothingHappens(check, "row 0 without a WORK", States::withoutWork, x -> x.row(0), -2);
        States.nothingHappens(check, "row NONE without a WORK", States::withoutWork, x -> x.row(-1), 0);
        for (int fault = 0; fault < 5; fault++) {
            int told = fault;
            States.nothingHappens(check, "a ninth " + fault, States::full, x -> x.row(told), -2);
        }
        PaidMistakes x = States.busy();
        due("row 4 of five", x.row(4), 4);
    }

    /** "one that is not OPEN, or whose minutes are not left, is left out (no minutes)". */
    private static void rowMinutes() {
        for (int time = 18; time <= 20; time++) {
            String work = "time " + time + ";kind 5 1 1;kind 7 1 1;fault 0 10 100;fault 1 9 100 under 0;fault 1 1 100";
            PaidMistakes x = with(work);
            x.row(0);
            x.row(1);
            due("10 and 9 of " + time, x.worth(0), time < 19 ? 5 : 12);
            fraction("1 by " + time, x.seen(1, 0), x.seen(1, 1), time < 19 ? 0 : 1, 1);
            x.row(-1);
            x.row(1);
            x.row(0);
            due("hidden, then 10 of " + time, x.worth(0), 5);
            x.row(2);
            x.row(1);
            due("10, then 1, then 9 of " + time, x.worth(0), time < 20 ? 12 : 19);
            x.row(-1);
            x.row(0);
            x.row(1);
            x.row(2);
            due("10, 9, and 1 of " + time, x.worth(0), time < 20 ? 12 : 19);
        }
        PaidMistakes y = with("time 9;kind 5 1 1;fault 0 10 100");
        y.row(0);
        fraction("one more than all minutes", y.worth(0), y.worth(1), 0, 1);
        PaidMistakes z = with("time 10;kind 5 1 1;fault 0 10 1");
        z.row(0);
        fraction("all minutes", z.worth(0), z.worth(1), 1, 20);
    }

    /** "how likely a FAULT is found in the end (1 if it was)". */
    private static void seen() {
        PaidMistakes x = with("time 9;kind 5 1 1;fault 0 1 100;fault 0 1 50 under 0;fault 0 1 0;fault 0 1 100;fault 0 1 1");
        for (int fault = 0; fault < 5; fault++) {
            fraction("by an empty ROW " + fault, x.seen(fault, 0), x.seen(fault, 1), 0, 1);
        }
        for (int fault : new int[] {1, 0, 1, 1, 2, 4}) {
            x.row(fault);
        }
        fraction("ODDS 100", x.seen(0, 0), x.seen(0, 1), 1, 1);
        fraction("twice half, as it is hidden once", x.seen(1, 0), x.seen(1, 1), 3, 4);
        fraction("ODDS 0", x.seen(2, 0), x.seen(2, 1), 0, 1);
        fraction("not in the ROW", x.seen(3, 0), x.seen(3, 1), 0, 1);
        fraction("ODDS 1", x.seen(4, 0), x.seen(4, 1), 1, 100);
        x.row(-1);
        x.look(3);
        fraction("it was found", x.seen(3, 0), x.seen(3, 1), 1, 1);
        x.mend(0);
        x.row(0);
        fraction("it was mended", x.seen(0, 0), x.seen(0, 1), 0, 1);
        x.row(1);
        fraction("under a mended one", x.seen(1, 0), x.seen(1, 1), 1, 2);
        x.dawn();
        fraction("it was found yesterday", x.seen(3, 0), x.seen(3, 1), 0, 1);
    }

    private static void seenRefused() {
        for (int outside : OUTSIDE_FAULTS) {
            States.refused(check, "seen " + outside, x -> x.seen(outside, 0), -1);
        }
        for (int part : OUTSIDE_PARTS) {
            States.refused(check, "seen part " + part, x -> x.seen(0, part), -1);
        }
        States.nothingHappens(check, "seen 5 of five", States::busy, x -> x.seen(5, 0), -1);
        States.nothingHappens(check, "seen 0 without a WORK", States::withoutWork, x -> x.seen(0, 0), -1);
    }

    private static void worthRefused() {
        for (int part : OUTSIDE_PARTS) {
            States.refused(check, "worth part " + part, x -> x.worth(part), -1);
        }
        for (int part = 0; part < 2; part++) {
            int asked = part;
            States.nothingHappens(check, "worth of none", States::empty, x -> x.worth(asked), -1);
            States.nothingHappens(check, "worth without a WORK", States::withoutWork, x -> x.worth(asked), -1);
        }
    }

    // ---- promises 17 and 18

    /** "BEST with n LOOKS (0 to 5)". */
    private static void best() {
        PaidMistakes x = with("time 6;kind 5 1 1;kind 6 1 1;kind 7 1 1;kind 8 1 1;kind 9 1 1;kind 10 1 1"
            + ";fault 0 1 100;fault 1 1 100;fault 2 1 100;fault 3 1 100;fault 4 1 100;fault 5 1 100");
        int[] most = {0, 10, 19, 27, 34, 40};
        int[] first = {-2, 5, 4, 3, 2, 1};
        for (int n = 0; n <= 5; n++) {
            fraction("best " + n, x.best(n, 0), x.best(n, 1), most[n], 1);
            due("the first of " + n, x.best(n, 2), first[n]);
        }
        // Minutes: as many as are left, and one more.
        for (int time = 9; time <= 11; time++) {
            PaidMistakes y = with("time " + time + ";kind 5 1 1;fault 0 5 100;fault 0 5 100");
            due("two LOOKS in " + time, y.best(2, 0), time < 10 ? 5 : 10);
            PaidMistakes z = with("time " + time + ";kind 5 1 1;fault 0 10 100");
            due("one LOOK in " + time, z.best(1, 0), time < 10 ? 0 : 5);
            due("its first in " + time, z.best(1, 2), time < 10 ? -2 : 0);
        }
        // The least ODDS and PAY, and the greatest fraction below: 1 - (99/100)^5.
        PaidMistakes w = with("kind 1 1 1;fault 0 1 1");
        fraction("1 in 100", w.best(1, 0), w.best(1, 1), 1, 100);
        fraction("five times 1 in 100", w.best(5, 0), w.best(5, 1), 10000000000L - 9509900499L, 10000000000L);
    }

    /** What was reckoned for one WORK is not told for another one, nor for an IMAGE's. */
    private static void bestOfOtherWorks() {
        PaidMistakes x = with("kind 5 1 99;fault 0 1 100;fault 0 1 100");
        due("two at 5", x.best(2, 0), 10);
        due("both are found", x.master(2, 0), 0);
        x.image(0);
        Check.work(x, "kind 6 1 99;fault 0 1 100;fault 0 1 100");
        due("two at 6", x.best(2, 0), 12);
        Check.work(x, "kind 6 7 99;fault 0 1 100;fault 0 1 0");
        due("one at 6", x.best(2, 0), 6);
        due("one stays", x.master(2, 0), 7);
        x.back(0);
        due("two at 5 again", x.best(2, 0), 10);
        Check.work(x, "kind 7 1 99;fault 0 1 100;fault 0 1 100");
        due("two at 7", x.best(2, 0), 14);
        x.back(0);
        x.look(0);
        due("from now", x.best(2, 0), 5);
    }

    /** "of several the least FAULT; none, if to stop is as good". */
    private static void bestStops() {
        for (int n = 0; n <= 5; n++) {
            PaidMistakes never = with("kind 9 1 1;fault 0 1 0");
            fraction("ODDS 0", never.best(n, 0), never.best(n, 1), 0, 1);
            due("ODDS 0: none", never.best(n, 2), -2);
            PaidMistakes unpaid = with("kind 0 1 1;fault 0 1 100");
            fraction("PAY 0", unpaid.best(n, 0), unpaid.best(n, 1), 0, 1);
            due("PAY 0: none", unpaid.best(n, 2), -2);
            PaidMistakes alike = with("kind 9 1 1;kind 0 1 1;fault 1 1 100;fault 0 1 50;fault 0 1 50");
            due("of several the least", alike.best(n, 2), n == 0 ? -2 : 1);
        }
        PaidMistakes x = with("kind 9 1 1;fault 0 1 100;fault 0 1 100");
        x.look(0);
        due("found", x.best(5, 2), 1);
        x.mend(1);
        due("found and mended: none", x.best(5, 2), -2);
        fraction("nothing", x.best(5, 0), x.best(5, 1), 0, 1);
        // One that pays nothing is looked for, if it opens one that pays: with one LOOK alone not.
        PaidMistakes y = with("kind 0 1 1;kind 9 1 1;fault 0 1 100;fault 1 1 100 under 0");
        due("one LOOK: none", y.best(1, 2), -2);
        due("two LOOKS", y.best(2, 2), 0);
        due("two LOOKS earn", y.best(2, 0), 9);
    }

    private static void bestRefused() {
        for (int n : new int[] {-1, 6, -2, 7, Integer.MIN_VALUE, Integer.MAX_VALUE}) {
            for (int part = 0; part < 3; part++) {
                int asked = part;
                States.refused(check, "best " + n + " " + part, x -> x.best(n, asked), -1);
            }
        }
        for (int part : OUTSIDE_THREE) {
            States.refused(check, "best part " + part, x -> x.best(1, part), -1);
        }
        for (int part = 0; part < 3; part++) {
            int asked = part;
            States.nothingHappens(check, "best of none", States::empty, x -> x.best(0, asked), -1);
            States.nothingHappens(check, "best without a WORK", States::withoutWork, x -> x.best(5, asked), -1);
        }
    }

    /** "MASTER (n 0 to 4)". */
    private static void master() {
        PaidMistakes x = with("time 5;kind 9 10 99" + ";fault 0 1 100".repeat(5));
        for (int n = 0; n <= 4; n++) {
            fraction("master " + n, x.master(n, 0), x.master(n, 1), 50 - 10 * n, 1);
            due("he mends nothing", x.master(n, 2), 0);
        }
        // The least MEAN: all is found, and nothing is worth mending.
        PaidMistakes y = with("kind 9 10 99;fault 0 1 100");
        fraction("found", y.master(1, 0), y.master(1, 1), 0, 1);
        y.mend(0);
        fraction("all is mended", y.master(4, 0), y.master(4, 1), 0, 1);
        due("none is left to mend", y.master(4, 2), 0);
        PaidMistakes z = with("kind 1 1 0;fault 0 1 1");
        fraction("99 in 100, four times", z.master(4, 0), z.master(4, 1), 96059601, 100000000);
    }

    /** "sets of FAULTS that are neither found nor mended (6 at most, the least ones)". */
    private static void sixToMend() {
        for (int ahead = 5; ahead <= 6; ahead++) {
            // Only to mend the fault behind these draws the apprentice, who has one LOOK, to what hides nothing.
            String work = "time 2;kind 0 0 0;kind 9 0 99;kind 5 40 99" + ";fault 0 1 100".repeat(ahead + 1)
                + ";fault 1 1 100 under " + ahead + ";fault 2 1 100";
            PaidMistakes x = with(work);
            due(ahead + " ahead of it", x.master(1, 2), ahead == 5 ? 32 : 0);
            due("what is left", x.master(1, 0), ahead == 5 ? 40 : 0);
            PaidMistakes found = with(work);
            found.look(0);
            due("one of them was found", found.master(1, 2), 1 << ahead);
            PaidMistakes mended = with(work);
            mended.mend(1);
            due("one of them was mended", mended.master(1, 2), 1 << ahead);
            due("what is left", mended.master(1, 0), 40);
        }
    }

    /** What is looked for only to open those under it is left alone if all of these are mended; the seventh can't be. */
    private static void allToMend() {
        for (int under = 4; under <= 6; under++) {
            PaidMistakes x = with("kind 0 90 99;kind 9 0 0;fault 0 1 100" + ";fault 1 1 100 under 0".repeat(under));
            for (int n = 2; n <= 4; n++) {
                due(under + " under it, n " + n, x.master(n, 2), under == 6 ? 0 : (1 << under) * 2 - 2);
                due("what is left", x.master(n, 0), under == 6 ? 0 : 90);
            }
            due("with one LOOK it is left alone", x.master(1, 2), 0);
            due("what is left", x.master(1, 0), 90);
        }
    }

    /** Each of those ahead is worth a LOOK with the one that hides much: only if all are mended is it left alone. */
    private static void allThatMayBeMended() {
        for (int ahead = 5; ahead <= 7; ahead++) {
            PaidMistakes x = with("time 10;kind 30 0 1;kind 31 99 99;kind 50 0 99" + ";fault 0 5 100".repeat(ahead)
                + ";fault 1 5 100;fault 2 10 100");
            for (int n = 2; n <= 4; n++) {
                due(ahead + " to mend, n " + n, x.master(n, 2), ahead == 7 ? 0 : (1 << ahead) - 1);
                fraction("what is left", x.master(n, 0), x.master(n, 1), ahead == 7 ? 0 : 99 - ahead, 1);
            }
        }
    }

    /** "of several the fewest, then the least as bits". */
    private static void masterTies() {
        PaidMistakes x = with("kind 0 0 0;fault 0 1 100;fault 0 1 100;fault 0 1 100");
        due("all are as good: none", x.master(3, 2), 0);
        // 0 (free) opens nothing; 1 and 2 (free) each draw the apprentice away.
        PaidMistakes y = with("time 1;kind 0 0 0;kind 9 0 99;kind 5 40 99;fault 0 1 0;fault 0 1 0;fault 0 1 0"
            + ";fault 1 1 100 under 1;fault 1 1 100 under 2;fault 2 1 100");
        due("of 1, 2 and more the least of the fewest", y.master(1, 2), 2);
        y.mend(1);
        due("then none", y.master(1, 2), 0);
        // 0 and 1 open a fault each that draws a LOOK away, 2 opens two: one to mend is fewer than two.
        PaidMistakes two = with("time 2;kind 0 0 0;kind 9 0 99;kind 5 40 99;fault 0 1 0;fault 0 1 0;fault 0 1 0;fault 1 1 100 under 0"
            + ";fault 1 1 100 under 1;fault 1 1 100 under 2;fault 1 1 100 under 2;fault 2 1 100;fault 2 1 100");
        due("the fewest, though not the least as bits", two.master(2, 2), 4);
        due("both stay", two.master(2, 0), 80);
        two.mend(0);
        due("then one of 1 and 2: the least", two.master(2, 2), 2);
        // To mend costs what it brings, or a coin more or less.
        PaidMistakes z = with("time 1;kind 0 0 1;kind 9 0 99;kind 5 40 99;fault 0 1 0;fault 1 1 100 under 0;fault 2 1 100");
        due("worth a coin", z.master(1, 2), 1);
        due("40 less 1", z.master(1, 0), 39);
        PaidMistakes w = with("time 1;kind 0 0 40;kind 9 0 99;kind 5 40 99;fault 0 1 0;fault 1 1 100 under 0;fault 2 1 100");
        due("as much as it brings: none", w.master(1, 2), 0);
        PaidMistakes v = with("time 1;kind 0 0 39;kind 9 0 99;kind 5 40 99;fault 0 1 0;fault 1 1 100 under 0;fault 2 1 100");
        due("one less than it brings", v.master(1, 2), 1);
        due("1 is left", v.master(1, 0), 1);
    }

    private static void masterRefused() {
        for (int n : new int[] {-1, 5, -2, 6, Integer.MIN_VALUE, Integer.MAX_VALUE}) {
            for (int part = 0; part < 3; part++) {
                int asked = part;
                States.refused(check, "master " + n + " " + part, x -> x.master(n, asked), NO_MEAN);
            }
        }
        for (int part : OUTSIDE_THREE) {
            States.refused(check, "master part " + part, x -> x.master(1, part), NO_MEAN);
        }
        for (int part = 0; part < 3; part++) {
            int asked = part;
            States.nothingHappens(check, "master of none", States::empty, x -> x.master(0, asked), NO_MEAN);
            States.nothingHappens(check, "master without a WORK", States::withoutWork, x -> x.master(4, asked), NO_MEAN);
        }
    }

    // ---- promises 19 to 21: the GAME

    /** "a NUMBER (place 0 to 7) becomes n (-99 to 99)". */
    private static void games() {
        for (int place : new int[] {-1, 8, -2, 9, Integer.MIN_VALUE, Integer.MAX_VALUE}) {
            States.refused(check, "game place " + place, x -> x.game(place, 1), -1000);
        }
        for (int n : new int[] {-100, 100, -101, 101, Integer.MIN_VALUE, Integer.MAX_VALUE}) {
            for (int place = 0; place < 8; place += 7) {
                int at = place;
                States.refused(check, "game " + place + " " + n, x -> x.game(at, n), -1000);
            }
        }
        PaidMistakes x = new PaidMistakes();
        for (int place = 0; place < 8; place++) {
            int before = 0;
            for (int n : new int[] {-99, 99, -98, 98, 0, place}) {
                due("game " + place + " " + n, x.game(place, n), before);
                before = n;
            }
        }
        for (int place = 0; place < 8; place++) {
            due("the others stayed", x.game(place, 0), place);
        }
    }

    private static PaidMistakes gameOf(int... numbers) {
        PaidMistakes x = new PaidMistakes();
        for (int place = 0; place < 8; place++) {
            x.game(place, numbers[place]);
        }
        return x;
    }

    /** "a play neither would leave alone (as good is not left)": one coin less is left. */
    private static void rests() {
        int[] oneLess = {14, 13, 11, 7, 14, 13, 11, 7};
        int[] oneMore = {11, 7, 14, 13, 13, 14, 7, 11};
        for (int base : new int[] {-98, 0, 98}) {
            for (int place = 0; place < 8; place++) {
                int[] numbers = new int[8];
                Arrays.fill(numbers, base);
                due("all as good", gameOf(numbers).rests(), 15);
                numbers[place] = base - 1;
                due("one less at " + place, gameOf(numbers).rests(), oneLess[place]);
                numbers[place] = base + 1;
                due("one more at " + place, gameOf(numbers).rests(), oneMore[place]);
            }
        }
        due("none", gameOf(99, -99, -99, 99, -99, 99, 99, -99).rests(), 0);
        due("two", gameOf(99, -99, -99, 99, 99, -99, -99, 99).rests(), 9);
        due("the other two", gameOf(-99, 99, 99, -99, -99, 99, 99, -99).rests(), 6);
    }

    /** "MIXED, if there is none": fractions in lowest terms between 0 and 1. */
    private static void mixed() {
        mixes(gameOf(99, -99, -99, 99, -99, 99, 99, -99), 1, 2, 1, 2);
        mixes(gameOf(-99, 1, 99, 0, 99, -99, 0, 1), 1, 199, 1, 199);
        mixes(gameOf(0, 99, 1, -99, 1, 0, -99, 99), 198, 199, 198, 199);
        mixes(gameOf(1, 0, 0, 1, 0, 1, 1, 0), 1, 2, 1, 2);
        // One coin more or less, and a play rests.
        due("as good", gameOf(0, 0, 0, 1, 0, 1, 1, 0).mixed(0, 0), -2);
        for (int i = 0; i < 4; i++) {
            due("there is a REST", gameOf(0, 0, 0, 0, 0, 0, 0, 0).mixed(i / 2, i % 2), -2);
        }
    }

    private static void mixes(PaidMistakes x, int hides, int ofHides, int looks, int ofLooks) {
        due("none rests", x.rests(), 0);
        fraction("hides", x.mixed(0, 0), x.mixed(0, 1), hides, ofHides);
        fraction("looks", x.mixed(1, 0), x.mixed(1, 1), looks, ofLooks);
    }

    private static void mixedRefused() {
        for (int outside : OUTSIDE_PARTS) {
            States.refused(check, "mixed what " + outside, x -> x.mixed(outside, 0), -1);
            States.refused(check, "mixed part " + outside, x -> x.mixed(0, outside), -1);
            States.refused(check, "mixed both " + outside, x -> x.mixed(outside, outside), -1);
        }
    }

    // ---- promise 22

    /** "the gain times those not checked is at most the fine times those checked": the least of 0 to 100. */
    private static void checks() {
        PaidMistakes x = new PaidMistakes();
        int[] coins = {0, 1, 2, 49, 50, 51, 98, 99, 100, 101, 198, 9998, 9999};
        for (int gain : coins) {
            for (int fine : coins) {
                int least = x.checks(gain, fine);
                check.holds("enough: " + gain + " " + fine, least >= 0 && least <= 100 && gain * (100 - least) <= fine * least);
                check.holds("one less is not: " + gain + " " + fine, least == 0 || gain * (101 - least) > fine * (least - 1));
            }
        }
        due("no gain", x.checks(0, 0), 0);
        due("no gain, a fine", x.checks(0, 9999), 0);
        due("the least gain", x.checks(1, 9999), 1);
        due("1 to 99: just 1", x.checks(1, 99), 1);
        due("1 to 98: 2", x.checks(1, 98), 2);
        due("99 to 1: just 99", x.checks(99, 1), 99);
        due("100 to 1: 100", x.checks(100, 1), 100);
        due("no fine", x.checks(9999, 0), 100);
        due("no fine for the least gain", x.checks(1, 0), 100);
    }

    private static void checksRefused() {
        for (int coins : new int[] {-1, 10000, -2, 10001, Integer.MIN_VALUE, Integer.MAX_VALUE}) {
            States.refused(check, "checks gain " + coins, x -> x.checks(coins, 5), -1);
            States.refused(check, "checks fine " + coins, x -> x.checks(5, coins), -1);
        }
    }

    // ---- promise 23

    /** "all within the time", "of ODDS above 0, mended ones not". */
    private static void fits() {
        for (int time = 9; time <= 11; time++) {
            PaidMistakes x = with("time " + time + ";kind 3 1 1;fault 0 5 1;fault 0 5 1");
            due("both in " + time, x.fits(6, 0), time < 10 ? 0 : 1);
            due("in all", x.fits(6, 1), time < 10 ? 0 : 3);
            due("in none", x.fits(6, 2), 0);
            due("one of both", x.fits(3, 0), 2);
            due("in all", x.fits(3, 1), 0);
            due("in none", x.fits(3, 2), 0);
        }
        PaidMistakes y = with("kind 3 1 1;kind 4 1 1;fault 0 1 0;fault 1 1 1");
        due("ODDS 0", y.fits(3, 0), 0);
        due("ODDS 1", y.fits(4, 0), 1);
        due("without it", y.fits(4, 2), 1);
        due("nothing", y.fits(0, 0), 1);
        due("nothing: in none", y.fits(0, 2), 3);
        y.mend(1);
        due("mended", y.fits(4, 0), 0);
        due("without a set: in all", y.fits(4, 1), 0);
        due("without a set: in none", y.fits(4, 2), 0);
        PaidMistakes z = with("time 480;kind 99 1 1;kind 0 1 1" + ";fault 0 1 1".repeat(10));
        due("all ten", z.fits(990, 0), 1);
        due("in all", z.fits(990, 1), 1023);
        due("in none", z.fits(990, 2), 0);
        due("one coin more", z.fits(991, 0), 0);
        due("one coin less", z.fits(989, 0), 0);
        due("nine", z.fits(891, 0), 10);
        PaidMistakes w = with("time 480;kind 0 1 1" + ";fault 0 1 1".repeat(10));
        due("all sets", w.fits(0, 0), 1024);
        due("in all of them", w.fits(0, 1), 0);
        due("in none of them", w.fits(0, 2), 0);
    }

    /** "one that is under another one only with that one, or if that is mended"; "from its begin". */
    private static void fitsTogether() {
        PaidMistakes x = with("time 3;kind 1 1 1;kind 2 1 1;kind 4 1 1;fault 0 1 50;fault 1 1 50 under 0;fault 2 1 50 under 1");
        int[] at = {1, 1, 0, 1, 0, 0, 0, 1};
        for (int coins = 0; coins < 8; coins++) {
            due("coins " + coins, x.fits(coins, 0), at[coins]);
        }
        x.seed(0);
        x.look(0);
        x.look(1);
        x.fine(9);
        for (int coins = 0; coins < 8; coins++) {
            due("from the DAY's begin: coins " + coins, x.fits(coins, 0), at[coins]);
        }
        PaidMistakes y = with("time 3;kind 1 1 1;kind 2 1 1;kind 4 1 1;fault 0 1 50;fault 1 1 50 under 0;fault 2 1 50 under 1");
        y.mend(1);
        int[] mended = {1, 1, 0, 0, 1, 1, 0, 0};
        for (int coins = 0; coins < 8; coins++) {
            due("1 is mended: coins " + coins, y.fits(coins, 0), mended[coins]);
        }
    }

    private static void fitsRefused() {
        for (int amount : new int[] {-1, 10000, -2, 10001, Integer.MIN_VALUE, Integer.MAX_VALUE}) {
            States.refused(check, "fits " + amount, x -> x.fits(amount, 0), -1);
        }
        for (int what : OUTSIDE_THREE) {
            States.refused(check, "fits what " + what, x -> x.fits(0, what), -1);
        }
        for (int what = 0; what < 3; what++) {
            int asked = what;
            States.nothingHappens(check, "fits of none", States::empty, x -> x.fits(0, asked), -1);
            States.nothingHappens(check, "fits without a WORK", States::withoutWork, x -> x.fits(9999, asked), -1);
            States.nothingHappens(check, "fits 9999", States::busy, x -> x.fits(9999, asked), 0);
        }
        States.nothingHappens(check, "fits 0", States::busy, x -> x.fits(0, 0), 1);
    }

    // ---- promises 26 to 29

    private static void counts() {
        for (int what : new int[] {-1, 11, -2, 12, Integer.MIN_VALUE, Integer.MAX_VALUE}) {
            States.refused(check, "count " + what, x -> x.count(what), -1);
        }
        for (int what : OUTSIDE_THREE) {
            States.refused(check, "coins " + what, x -> x.coins(what), NO_COINS);
        }
        // Four LOOKS, of 5, 3, 6 and 4 minutes, by DRAWS of 0, 68, 88 and 17 from x = 0: the first and the last find.
        int[] full = {5, 2, 6, 12, 2, 0, 8, 0, 400, 0, 30};
        PaidMistakes x = States.full();
        for (int what = 0; what <= 10; what++) {
            if (what != 7) {
                due("count " + what, x.count(what), full[what]);
            }
        }
        PaidMistakes y = States.empty();
        for (int what = 0; what <= 10; what++) {
            due("count " + what + " of nothing", y.count(what), 0);
        }
        for (int what = 0; what <= 2; what++) {
            due("coins " + what + " of nothing", y.coins(what), 0);
        }
    }

    /** "IMAGES 0 to 3". */
    private static void images() {
        PaidMistakes x = States.full();
        for (int k = 0; k < 4; k++) {
            due("image " + k, x.image(k), k);
            x.dawn();
        }
        for (int k = 3; k >= 0; k--) {
            due("back " + k, x.back(k), k);
            due("DAYS", x.count(9), k);
        }
        // Made again, it is the new one.
        x.dawn();
        x.dawn();
        due("image 0 again", x.image(0), 2);
        due("back 3", x.back(3), 3);
        due("back 0", x.back(0), 2);
        due("back 0 twice", x.back(0), 2);
        due("the others stay", x.back(1), 1);
    }

    /** image: "NONE without it"; back: "NONE, and nothing happens, if it was never made, or without it." */
    private static void imagesRefused() {
        for (int k : new int[] {-1, 4, -2, 5, Integer.MIN_VALUE, Integer.MAX_VALUE}) {
            States.refused(check, "image " + k, x -> x.image(k), -1);
            States.refused(check, "back " + k, x -> x.back(k), -1);
        }
        for (int k = 0; k < 4; k++) {
            int asked = k;
            States.nothingHappens(check, "never made " + k, States::empty, x -> x.back(asked), -1);
            if (k != 1) {
                States.nothingHappens(check, "never made, no WORK " + k, States::withoutWork, x -> x.back(asked), -1);
            }
            if (k % 2 == 1) {
                States.nothingHappens(check, "never made, a DAY " + k, States::busy, x -> x.back(asked), -1);
            }
        }
    }

    /** "all but the TAPE and the RULES, as it is (x, too); gone back to, it is as it was (these stay)". */
    private static void imagesKeep() {
        for (int k = 0; k < 4; k++) {
            PaidMistakes x = States.busy();
            PaidMistakes twin = States.busy();
            due("image " + k, x.image(k), 1);
            twin.image(k);
            changeAll(x);
            due("back " + k, x.back(k), 1);
            // The TAPE and the RULES stay, so the twin is told these alone.
            Check.rule(twin, "look 3");
            Check.tell(twin, "stop 1=1");
            States.same(check, "back to image " + k, x, twin);
        }
        PaidMistakes x = States.withoutWork();
        PaidMistakes twin = States.withoutWork();
        x.image(2);
        twin.image(2);
        changeAll(x);
        due("back to no WORK", x.back(2), 0);
        Check.rule(twin, "look 3");
        Check.tell(twin, "stop 1=1");
        States.same(check, "back to no WORK", x, twin);
    }

    private static void changeAll(PaidMistakes x) {
        x.look(3);
        x.fine(9);
        x.mend(4);
        x.row(0);
        x.dawn();
        x.day(0);
        for (int place = 0; place < 8; place++) {
            x.game(place, 9 + place);
        }
        x.seed(99);
        Check.work(x, "time 9;kind 1 2 3;fault 0 1 50;fault 0 1 50 under 0");
        x.row(1);
        x.look(0);
        x.dawn();
        Check.rule(x, "look 3");
        Check.tell(x, "stop 1=1");
    }
}

import java.util.List;
import java.util.function.Supplier;
import java.util.function.ToLongFunction;

/**
 * Objects in the states that matter at a boundary, and the test that a call changes nothing on them:
 * what all calls tell behind it is what they tell of a twin on which it was never called.
 */
final class States {
    static final String WORK =
        "time 30;kind 10 3 2;kind 4 8 1;fault 0 5 100;fault 1 3 50 under 0;fault 1 6 0;fault 0 4 60;fault 1 9 30 under 1";

    private States() {
    }

    /** As it is made. */
    static PaidMistakes empty() {
        return new PaidMistakes();
    }

    /** Everything but a WORK. */
    static PaidMistakes withoutWork() {
        PaidMistakes x = new PaidMistakes();
        x.seed(7);
        tellGame(x);
        Check.rule(x, "look minutes");
        x.image(1);
        x.seed(8);
        Check.tell(x, "look 7-fault if pay>3");
        return x;
    }

    /** In the middle of a second DAY. */
    static PaidMistakes busy() {
        PaidMistakes x = new PaidMistakes();
        x.seed(7);
        tellGame(x);
        Check.work(x, WORK);
        Check.rule(x, "look minutes");
        Check.rule(x, "look 0-pay;stop tries>1");
        x.look(0);
        x.mend(2);
        x.fine(3);
        x.dawn();
        x.look(0);
        x.row(1);
        x.row(3);
        x.image(0);
        x.look(1);
        x.row(4);
        x.image(2);
        x.fine(1);
        Check.tell(x, "look 7-fault if pay>3");
        return x;
    }

    /** 6 RULES, 8 in the ROW, 400 bytes on the TAPE, all IMAGES made. */
    static PaidMistakes full() {
        PaidMistakes x = new PaidMistakes();
        tellGame(x);
        Check.work(x, WORK);
        for (int i = 0; i < 6; i++) {
            Check.rule(x, "look " + i + "-fault");
        }
        for (int i = 0; i < 8; i++) {
            x.row(i % 5);
        }
        for (int i = 0; i < 4; i++) {
            x.image(i);
            x.look(i);
        }
        Check.tell(x, WORK + " ".repeat(400 - WORK.length()));
        return x;
    }

    /** None of these rests: the master hides 1 in 5, the other one looks 2 in 5. */
    private static void tellGame(PaidMistakes x) {
        int[] numbers = {-3, 2, 0, 0, 4, 0, -1, 0};
        for (int place = 0; place < 8; place++) {
            x.game(place, numbers[place]);
        }
    }

    /** The call answers so, and nothing happens, on a state. */
    static void nothingHappens(Check check, String name, Supplier<PaidMistakes> state, ToLongFunction<PaidMistakes> call, long answer) {
        PaidMistakes called = state.get();
        check.due(name, call.applyAsLong(called), answer);
        same(check, name, called, state.get());
    }

    /** The call answers so, and nothing happens, on every state. */
    static void refused(Check check, String name, ToLongFunction<PaidMistakes> call, long answer) {
        nothingHappens(check, name + " (new object)", States::empty, call, answer);
        nothingHappens(check, name + " (no WORK)", States::withoutWork, call, answer);
        nothingHappens(check, name + " (a DAY)", States::busy, call, answer);
        nothingHappens(check, name + " (all full)", States::full, call, answer);
    }

    static void same(Check check, String name, PaidMistakes one, PaidMistakes other) {
        List<String> got = Answers.of(one);
        List<String> want = Answers.of(other);
        check.due(name + ": calls told", got.size(), want.size());
        for (int i = 0; i < Math.min(got.size(), want.size()); i++) {
            check.holds(name + ": behind it " + got.get(i) + ", due is " + want.get(i), got.get(i).equals(want.get(i)));
        }
    }
}

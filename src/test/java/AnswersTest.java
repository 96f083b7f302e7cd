import java.util.LinkedHashMap;
import java.util.Map;
import java.util.function.Consumer;

/** The eye of the tests at boundaries: whatever a call really changes, Answers tells it. */
public final class AnswersTest {
    private static final Check check = new Check();

    public static void main(String[] args) {
        Map<String, Consumer<PaidMistakes>> changes = new LinkedHashMap<>();
        changes.put("feed", x -> x.feed(1, 2, 3, 4, 5));
        changes.put("end", x -> x.end(20));
        changes.put("the TAPE's bytes alone", AnswersTest::otherBytes);
        changes.put("work", x -> Check.work(x, States.WORK));
        changes.put("look", x -> x.look(3));
        changes.put("fine", x -> x.fine(1));
        changes.put("mend", x -> x.mend(3));
        changes.put("dawn", x -> x.dawn());
        changes.put("day", x -> x.day(0));
        changes.put("row", x -> x.row(0));
        changes.put("an empty row", x -> x.row(-1));
        changes.put("seed", x -> x.seed(1));
        changes.put("back", x -> x.back(0));
        for (int place = 0; place < 8; place++) {
            int at = place;
            changes.put("game " + place, x -> x.game(at, 77));
        }
        for (int k = 0; k < 4; k++) {
            int image = k;
            changes.put("image " + k, x -> x.image(image));
        }
        for (Map.Entry<String, Consumer<PaidMistakes>> change : changes.entrySet()) {
            PaidMistakes x = States.busy();
            change.getValue().accept(x);
            check.holds("Answers tell of " + change.getKey(), !Answers.of(x).equals(Answers.of(States.busy())));
        }
        PaidMistakes sixth = States.withoutWork();
        sixth.rule();
        check.holds("Answers tell of a RULE", !Answers.of(sixth).equals(Answers.of(States.withoutWork())));
        check.holds("twins are alike", Answers.of(States.busy()).equals(Answers.of(States.busy())));
        check.holds("twins are alike", Answers.of(States.full()).equals(Answers.of(States.full())));
        check.close("AnswersTest");
    }

    /** As long as before, with another number in it. */
    private static void otherBytes(PaidMistakes x) {
        Check.tell(x, "look 7-fault if pay>9");
    }
}

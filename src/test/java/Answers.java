import java.util.ArrayList;
import java.util.List;

/**
 * All that the calls of an object tell, one line each, so that two objects can be held against one another:
 * one on which a call was refused, and one on which it never was. The object is spent behind it (some 300 calls).
 */
final class Answers {
    private final PaidMistakes x;
    private final List<String> told = new ArrayList<>();

    private Answers(PaidMistakes x) {
        this.x = x;
    }

    static List<String> of(PaidMistakes x) {
        Answers answers = new Answers(x);
        answers.standing();
        answers.texts();
        answers.asked();
        answers.played();
        answers.game();
        answers.tapeAndImages();
        return answers.told;
    }

    private void add(String call, long answer) {
        told.add(call + " = " + answer);
    }

    private void standing() {
        for (int what = 0; what <= 10; what++) {
            add("count " + what, x.count(what));
        }
        for (int what = 0; what <= 2; what++) {
            add("coins " + what, x.coins(what));
        }
    }

    private void texts() {
        for (int kind = 0; kind < x.count(1); kind++) {
            for (int what = 0; what < 3; what++) {
                add("kind " + kind + " " + what, x.kind(kind, what));
            }
        }
        for (int fault = 0; fault < x.count(0); fault++) {
            for (int what = 0; what < 7; what++) {
                add("fault " + fault + " " + what, x.fault(fault, what));
            }
        }
    }

    private void asked() {
        for (int part = 0; part < 3; part++) {
            add("worth " + part, x.worth(part));
            add("best 3 " + part, x.best(3, part));
            add("master 2 " + part, x.master(2, part));
            add("fits 10 " + part, x.fits(10, part));
        }
        for (int fault = 0; fault < x.count(0); fault++) {
            add("seen " + fault + " above", x.seen(fault, 0));
            add("seen " + fault + " below", x.seen(fault, 1));
        }
        add("rests", x.rests());
        for (int i = 0; i < 4; i++) {
            add("mixed " + i / 2 + " " + i % 2, x.mixed(i / 2, i % 2));
        }
    }

    private void played() {
        for (int rule = 0; rule < x.count(2); rule++) {
            for (int what = 0; what < 5; what++) {
                add("would " + rule + " " + what, x.would(rule, what));
            }
            add("weeks " + rule, x.weeks(rule, 1, 0));
        }
    }

    private void game() {
        for (int place = 0; place < 8; place++) {
            int number = x.game(place, 0);
            add("game " + place, number);
            x.game(place, number);
        }
    }

    /** What can be seen only by changing it: it comes last. */
    private void tapeAndImages() {
        add("the TAPE as a RULE", x.rule());
        played();
        for (int image = 0; image < 4; image++) {
            add("back " + image, x.back(image));
            standing();
        }
        add("the TAPE as a WORK, if there were 6 RULES", x.work());
        standing();
    }
}

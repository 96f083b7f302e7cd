/** Counts answers that are not as due, and tells texts to an object. Not a test itself. */
final class Check {
    private int asked = 0;
    private int wrong = 0;

    void due(String call, long got, long want) {
        asked++;
        if (got != want) {
            wrong++;
            if (wrong <= 50) {
                System.out.println(call + " answered " + got + ", due is " + want);
            }
        }
    }

    void holds(String what, boolean really) {
        due(what, really ? 1 : 0, 1);
    }

    boolean anyWrong() {
        return wrong > 0;
    }

    /** Ends the test: exit code 1 if an answer was wrong, or if none was asked for. */
    void close(String name) {
        System.out.println(name + ": " + asked + " answers, " + wrong + " not as due");
        if (wrong != 0 || asked == 0) {
            System.exit(1);
        }
    }

    /** Feeds a text behind an empty TAPE; signs are bytes, 0 to 255. */
    static void tell(PaidMistakes x, String text) {
        x.end(0);
        for (int i = 0; i < text.length(); i += 20) {
            x.feed(four(text, i), four(text, i + 4), four(text, i + 8), four(text, i + 12), four(text, i + 16));
        }
        x.end(text.length());
    }

    static int four(String text, int from) {
        int number = 0;
        for (int i = from; i < from + 4; i++) {
            number = number << 8 | (i < text.length() ? text.charAt(i) & 255 : 0);
        }
        return number;
    }

    static int work(PaidMistakes x, String text) {
        tell(x, text);
        return x.work();
    }

    static int rule(PaidMistakes x, String text) {
        tell(x, text);
        return x.rule();
    }

    static String times(String piece, int n) {
        return piece.repeat(n);
    }

    /** What work and rule answer for a fault of a text. */
    static int faulty(int place, int what) {
        return -2 - (1 + 8 * place + what);
    }
}

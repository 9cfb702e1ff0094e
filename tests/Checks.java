import java.util.function.ToIntFunction;

/** What the tests of the project share: answers that are due, and boards made of texts. */
final class Checks {
    private int wrong = 0;
    private int made = 0;
    private String about = "";

    void about(String told) {
        about = told;
    }

    void due(String call, long got, long want) {
        made++;
        if (got != want) {
            wrong++;
            if (wrong <= 50) {
                System.out.println(about + ": " + call + " answered " + got + ", due is " + want);
            }
        }
    }

    /** How many answers were looked at. */
    int made() {
        return made;
    }

    /** A call that is refused tells so, and the digest is the same ahead of it and behind it. */
    void refused(LeapBoard x, String call, int want, ToIntFunction<LeapBoard> asked) {
        long ahead = x.digest();
        due(call, asked.applyAsInt(x), want);
        due("digest() behind " + call, x.digest(), ahead);
    }

    /** Prints how it went, and ends with exit code 1 if an answer was wrong. */
    void end() {
        System.out.println(made + " answers looked at, " + wrong + " not as due");
        if (wrong != 0 || made == 0) {
            System.exit(1);
        }
    }

    static void write(LeapBoard x, String text) {
        for (int i = 0; i < text.length(); i++) {
            x.letter(text.charAt(i));
        }
    }

    static LeapBoard on(String text) {
        LeapBoard x = new LeapBoard();
        write(x, text);
        if (x.board() < 0) {
            throw new IllegalArgumentException("no board: " + text);
        }
        return x;
    }
}

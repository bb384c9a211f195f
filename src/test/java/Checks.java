/** Counts the answers of a test that are not the ones due, and tells them. */
final class Checks {
    private final String test;
    private int asked = 0;
    private int wrong = 0;

    Checks(String test) {
        this.test = test;
    }

    void due(String call, long got, long want) {
        right(got == want, call + " answered " + got + ", due is " + want);
    }

    void holds(String what, boolean so) {
        right(so, what + " does not hold");
    }

    /** Tells what is wrong, if it is not so. */
    void right(boolean so, String whatIsWrong) {
        asked++;
        if (!so) {
            wrong++;
            System.out.println(test + ": " + whatIsWrong);
        }
    }

    /** Tells the outcome; ends the program with 1 if an answer was wrong. */
    void end() {
        System.out.println(test + ": " + asked + " answers, " + wrong + " wrong");
        if (wrong != 0 || asked == 0) {
            System.exit(1);
        }
    }

    /** Feeds a text to THE TAPE and reads it. */
    static int readText(FarHeights x, String text) {
        feedText(x, text);
        return x.read();
    }

    static int feedText(FarHeights x, String text) {
        int answer = 0;
        for (int at = 0; at < text.length(); at += 8) {
            int n = Math.min(8, text.length() - at);
            long eight = 0;
            for (int i = 0; i < n; i++) {
                eight |= (text.charAt(at + i) & 255L) << (8 * i);
            }
            answer = x.feed(eight, n);
        }
        return answer;
    }
}

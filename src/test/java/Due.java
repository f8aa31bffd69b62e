/** What the tests share: each answer is held against the one that is due. */
final class Due {
    private int wrong = 0;
    private String about = "";

    /** Names what the next answers are about, as a rule a promise. */
    void about(String what) {
        about = what;
    }

    void is(long want, long got, String call) {
        if (want == got) return;
        wrong++;
        if (wrong <= 40) System.out.println(about + ": " + call + " answered " + got + ", due is " + want);
    }

    void holds(boolean that, String what) {
        is(1, that ? 1 : 0, what);
    }

    void end() {
        System.out.println(wrong == 0 ? "all answers are as due" : wrong + " answers are not as due");
        if (wrong != 0) System.exit(1);
    }

    /** Writes a text on the page of x, eight letters a call; answers what the last call answered. */
    static int write(SmallMakers x, String text) {
        int answer = 0;
        for (int at = 0; at < text.length(); at += 8) {
            answer = x.letters(packed(text.substring(at, Math.min(at + 8, text.length()))));
        }
        return answer;
    }

    static long packed(String upToEight) {
        long w = 0;
        for (int i = 0; i < upToEight.length(); i++) w |= (long) upToEight.charAt(i) << 8 * i;
        return w;
    }

    static int chain(SmallMakers x, String text) {
        x.blank();
        write(x, text);
        return x.chain();
    }
}

/** Counts answers that are not the ones that are due. */
final class Check {
    private int wrong;
    private int asked;
    private final String about;

    Check(String about) {
        this.about = about;
    }

    void due(String call, long got, long want) {
        asked++;
        if (got == want) return;
        wrong++;
        System.out.println(about + ": " + call + " answered " + got + ", due is " + want);
    }

    void holds(String what, boolean is) {
        asked++;
        if (is) return;
        wrong++;
        System.out.println(about + ": not so: " + what);
    }

    /** Feeds a text and reads it. */
    static int readText(BoxLeaves x, String text) {
        feedText(x, text);
        return x.read();
    }

    static void feedText(BoxLeaves x, String text) {
        for (int at = 0; at < text.length(); at += 8) {
            int n = Math.min(8, text.length() - at);
            long eight = 0;
            for (int i = 0; i < n; i++) eight |= (text.charAt(at + i) & 255L) << 8 * i;
            x.feed(eight, n);
        }
    }

    static String times(String s, int n) {
        return s.repeat(n);
    }

    void end() {
        System.out.println(about + ": " + (asked - wrong) + " of " + asked + " as due");
        if (wrong != 0) System.exit(1);
    }
}

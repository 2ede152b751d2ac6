/** Compares answers with those that are due, and ends with exit code 1 if one is not as due. */
final class Due {
    private int asked = 0;
    private int wrong = 0;

    void is(String call, int got, int due) {
        asked++;
        if (got != due) {
            wrong++;
            System.out.println(call + " answered " + got + ", due is " + due);
        }
    }

    /** Feeds a text's bytes and trims the blanks that fill the last twelve; answers what text() does. */
    static int read(StrokesHeard x, String text) {
        put(x, text);
        return x.text();
    }

    static void put(StrokesHeard x, String text) {
        x.trim(0);
        for (int i = 0; i < text.length(); i += 12) {
            x.feed(four(text, i), four(text, i + 4), four(text, i + 8));
        }
        x.trim(text.length());
    }

    private static int four(String text, int from) {
        int bytes = 0;
        for (int i = from; i < from + 4; i++) {
            bytes = bytes << 8 | (i < text.length() ? text.charAt(i) : ' ');
        }
        return bytes;
    }

    void end() {
        System.out.println(asked + " answers, " + wrong + " not as due");
        if (wrong != 0) {
            System.exit(1);
        }
    }
}

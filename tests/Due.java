/** What the tests share: answers compared with the ones that are due, and texts fed to a TAPE. */
final class Due {
    private int wrong = 0;
    private int asked = 0;

    void due(String call, long got, long want) {
        asked++;
        if (got != want) {
            wrong++;
            System.out.println(call + " answered " + got + ", due is " + want);
        }
    }

    /** Ends with exit code 1 if an answer was wrong. */
    void close() {
        System.out.println(asked + " answers, " + wrong + " wrong");
        if (wrong != 0) {
            System.exit(1);
        }
    }

    static int wordOf(byte[] bytes, int at) {
        int word = 0;
        for (int i = 0; i < 4; i++) {
            word = word << 8 | (at + i < bytes.length ? bytes[at + i] & 255 : 0);
        }
        return word;
    }

    /** Puts a text on an empty TAPE. */
    static void feedText(SpokenBite bite, String text) {
        byte[] bytes = text.getBytes(java.nio.charset.StandardCharsets.ISO_8859_1);
        for (int at = 0; at < bytes.length; at += 20) {
            bite.feed(wordOf(bytes, at), wordOf(bytes, at + 4), wordOf(bytes, at + 8),
                wordOf(bytes, at + 12), wordOf(bytes, at + 16));
        }
        bite.end(bytes.length);
    }

    static int dinnerOf(SpokenBite bite, String text) {
        bite.end(0);
        feedText(bite, text);
        return bite.dinner();
    }

    static int ruleOf(SpokenBite bite, String text) {
        bite.end(0);
        feedText(bite, text);
        return bite.rule();
    }

    /** What a faulty text is answered with. */
    static int faulty(int place, int kind) {
        return -2 - (1 + 8 * place + kind);
    }
}

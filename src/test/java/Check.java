import java.nio.charset.StandardCharsets;

/** What the tests share: answers counted, and texts put on the tape. */
final class Check {
    private int wrong;
    private int asked;

    void due(String call, long got, long want) {
        asked++;
        if (got != want) {
            wrong++;
            if (wrong <= 40) {
                System.out.println(call + " answered " + got + ", due is " + want);
            }
        }
    }

    void holds(String what, boolean isSo) {
        due(what, isSo ? 1 : 0, 1);
    }

    int wrongSoFar() {
        return wrong;
    }

    void finish() {
        System.out.println(asked + " answers asked, " + wrong + " wrong");
        if (wrong != 0 || asked == 0) {
            System.exit(1);
        }
    }

    /** Puts a text on an empty tape and answers its length. */
    static int put(CabbageViews garden, String text) {
        return put(garden, text.getBytes(StandardCharsets.ISO_8859_1));
    }

    static int put(CabbageViews garden, byte[] text) {
        garden.end(0);
        for (int from = 0; from < text.length; from += 20) {
            garden.feed(four(text, from), four(text, from + 4), four(text, from + 8),
                    four(text, from + 12), four(text, from + 16));
        }
        return garden.end(text.length);
    }

    private static int four(byte[] text, int from) {
        int number = 0;
        for (int i = from; i < from + 4; i++) {
            number = number << 8 | (i < text.length ? text[i] & 255 : 0);
        }
        return number;
    }

    static CabbageViews planted(String text) {
        CabbageViews garden = new CabbageViews();
        put(garden, text);
        if (garden.garden() <= 0) {
            throw new IllegalStateException("no garden: " + text);
        }
        return garden;
    }
}

import java.nio.charset.StandardCharsets;

/** Counts answers that are not as due, and feeds schools told as texts. */
final class Due {
    private int checked;
    private int wrong;
    private int sentences;
    private String sentence = "";

    /** What is looked at from here on is due by these words of the document, or by what follows from them. */
    void says(String words) {
        sentences++;
        sentence = "\"" + words + "\": ";
    }

    void is(String call, long got, long want) {
        checked++;
        if (got != want) {
            wrong++;
            if (wrong <= 40) {
                System.out.println(sentence + call + " answered " + got + ", due is " + want);
            }
        }
    }

    void is(String call, boolean got, boolean want) {
        is(call, got ? 1 : 0, want ? 1 : 0);
    }

    void lie(String call, LimpCode x, int... want) {
        is(call + ": how many lie there", x.about(11), want.length);
        for (int i = 0; i < want.length; i++) {
            is(call + ": lies(" + i + ")", x.lies(i), want[i]);
        }
        is(call + ": lies behind the last", x.lies(want.length), -1);
        is(call + ": lies(-1)", x.lies(-1), -1);
    }

    void finish() {
        String of = sentences > 0 ? " of " + sentences + " sentences" : "";
        System.out.println(checked + " answers" + of + ", " + wrong + " not as due");
        if (wrong != 0) {
            System.exit(1);
        }
    }

    static void put(LimpCode x, String text) {
        putBytes(x, text.getBytes(StandardCharsets.ISO_8859_1));
    }

    static void putBytes(LimpCode x, byte[] text) {
        x.end(0);
        for (int at = 0; at < text.length; at += 20) {
            x.feed(four(text, at), four(text, at + 4), four(text, at + 8), four(text, at + 12), four(text, at + 16));
        }
        x.end(text.length);
    }

    private static int four(byte[] text, int at) {
        int number = 0;
        for (int i = at; i < at + 4; i++) {
            number = number << 8 | (i < text.length ? text[i] & 255 : 0);
        }
        return number;
    }

    static LimpCode taught(String school) {
        LimpCode x = new LimpCode();
        put(x, school);
        if (x.school() < 0) {
            System.out.println("the test's school is refused: " + school);
            System.exit(1);
        }
        return x;
    }
}

import java.nio.charset.StandardCharsets;

/** Counts answers that are not as due, and puts texts on a tape. */
final class Check {
    private int wrong = 0;
    private int asked = 0;
    private String about = "";

    void about(String what) {
        about = what;
    }

    void due(String call, long got, long want) {
        asked++;
        if (got != want) {
            wrong++;
            System.out.println(about + ": " + call + " answered " + got + ", due is " + want);
        }
    }

    void due(String call, boolean got, boolean want) {
        due(call, got ? 1 : 0, want ? 1 : 0);
    }

    void end() {
        System.out.println(asked + " answers, " + wrong + " not as due");
        if (wrong != 0) {
            System.exit(1);
        }
    }

    static byte[] bytes(String text) {
        return text.getBytes(StandardCharsets.ISO_8859_1);
    }

    /** Puts bytes on an empty tape. A tape of more than 1,980 needs the full 20 at its end. */
    static void feed(KneeStair stair, byte[] text) {
        for (int from = 0; from < text.length; from += 20) {
            stair.feed(word(text, from), word(text, from + 4), word(text, from + 8),
                    word(text, from + 12), word(text, from + 16));
        }
        int rest = text.length % 20;
        stair.back(rest == 0 ? 0 : 20 - rest);
    }

    static int word(byte[] text, int from) {
        int word = 0;
        for (int i = from; i < from + 4; i++) {
            word = word << 8 | (i < text.length ? text[i] & 255 : 32);
        }
        return word;
    }

    static KneeStair told(String text) {
        KneeStair stair = new KneeStair();
        feed(stair, bytes(text));
        int fault = stair.read();
        if (fault != 0) {
            throw new IllegalStateException("fault " + fault + " at " + stair.place() + ": " + text);
        }
        return stair;
    }

    /** A text has a FAULT at the place of a mark, or else at its end; or has none (number 0). */
    void dueFault(int number, String marked) {
        int mark = marked.indexOf('@');
        String text = marked.replace("@", "");
        int place = mark < 0 ? text.length() : mark;
        due("fault of " + text, fault(text), number == 0 ? KneeStair.NONE : 10000 * number + place);
    }

    /** A text's FAULT and its place, as one number: 10000 * the FAULT + the place. */
    static int fault(String text) {
        KneeStair stair = new KneeStair();
        feed(stair, bytes(text));
        int fault = stair.read();
        return 10000 * fault + stair.place();
    }
}

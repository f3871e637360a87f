import java.util.function.Function;
import java.util.function.Supplier;

/**
 * What a call leaves behind: an object with the call is held against one without it, down to what is TOLD, what can be
 * undone, what the SLOTS hold and what is on the tape.
 */
final class Traces {
    private final Check check;

    Traces(Check check) {
        this.check = check;
    }

    /** Three pilgrims (one ARRIVED, one kneels, one is too sore), 5 things done, 2 TOLD, SLOTS 0 and 2 held, 20 bytes. */
    static KneeStair busy() {
        KneeStair x = Check.told("stair 10; pilgrim a 0 2 1 2 5 kneels; pilgrim b 4 1 2 9 3 kneels; pilgrim c 9 4 3 9 9;"
                + " moves = knees - doubt + oiled; has = step * 10 - sore; oil 2;");
        x.run(1);
        x.hold(0);
        x.tell(0, 0, 2);
        x.tell(1, 1, 3);
        x.oil(3);
        x.run(1);
        x.hold(2);
        x.board(1);
        x.kneel(1);
        Check.feed(x, Check.bytes("stair 7; oil 8;     "));
        return x;
    }

    static KneeStair idle() {
        return new KneeStair();
    }

    /** The answer is as due, and the object is as it was without the call. */
    void refused(String call, Supplier<KneeStair> made, Function<KneeStair, Object> asked, Object want) {
        KneeStair with = made.get();
        Object got = asked.apply(with);
        check.due(call + " answered " + got + "; it is " + want, got.equals(want), true);
        alike(call, with, made.get());
    }

    void nothingHappens(String call, Supplier<KneeStair> made, Function<KneeStair, Object> asked) {
        KneeStair with = made.get();
        asked.apply(with);
        alike(call, with, made.get());
    }

    /** Neither of the two is of use behind it. */
    void alike(String about, KneeStair one, KneeStair other) {
        String traceOfOne = trace(one);
        String traceOfOther = trace(other);
        check.due(about + " left\n" + traceOfOne + "\n, and without it it is\n" + traceOfOther + "\n",
                traceOfOne.equals(traceOfOther), true);
    }

    private static String trace(KneeStair x) {
        StringBuilder s = new StringBuilder("now");
        for (int what = 0; what <= 10; what++) {
            s.append(' ').append(x.count(what));
        }
        shown(s, x, 7);
        s.append(" moves ").append(x.moves()).append("\ntold");
        for (int k = 0; k <= x.count(9); k++) {
            s.append(' ').append(x.off(k)).append(' ').append(x.secret(k, KneeStair.NONE));
        }
        s.append(' ').append(x.forget());
        while (x.undo()) {
            s.append("\nundone");
            shown(s, x, 4);
        }
        for (int slot = 0; slot < 3; slot++) {
            if (x.restore(slot)) {
                s.append("\nslot ").append(slot);
                shown(s, x, 4);
            }
        }
        s.append("\ntape ").append(x.read()).append(' ').append(x.place()).append(' ').append(x.count(1));
        shown(s, x, 4);
        return s.toString();
    }

    private static void shown(StringBuilder s, KneeStair x, int whats) {
        s.append(" |").append(x.count(2)).append(' ').append(x.count(5)).append(' ').append(x.count(6));
        for (int p = 0; p < x.count(0); p++) {
            s.append(" |");
            for (int what = 0; what <= whats; what++) {
                s.append(' ').append(x.pilgrim(p, what));
            }
        }
    }
}

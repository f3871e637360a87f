import java.util.Arrays;
import java.util.Random;

/** Runs of calls drawn from seeds, on the program and on the model; all answers are to be alike. */
public final class RandomRunsTest {
    private static final int RUNS = 400;
    private static final int FAULT_RUNS = 6000;
    private static final int CALLS = 150;

    private final Random random;
    private final Check check;
    private final KneeStair stair = new KneeStair();
    private final Model model = new Model();
    private int secretRiser = 0;
    private int secretMinute = 0;

    private RandomRunsTest(long seed, Check check) {
        this.random = new Random(seed);
        this.check = check;
        check.about("seed " + seed);
    }

    private int pick(int least, int most) {
        return least + random.nextInt(most - least + 1);
    }

    private boolean rarely(int oneOf) {
        return random.nextInt(oneOf) == 0;
    }

    // ---- texts

    private String unit(int open) {
        String[] vars = {"knees", "doubt", "oiled", "minute", "on", "step", "sore", "borne"};
        int way = pick(0, 9);
        if (way < 3) return "" + (rarely(6) ? pick(0, 9999) : pick(0, 6));
        if (way < 8 || open > 5) return vars[random.nextInt(vars.length)];
        return "(" + sum(open + 1) + ")";
    }

    private String product(int open) {
        StringBuilder s = new StringBuilder(unit(open));
        while (rarely(4)) s.append(rarely(2) ? "*" : " / ").append(unit(open));
        return s.toString();
    }

    private String sum(int open) {
        StringBuilder s = new StringBuilder(product(open));
        while (rarely(3)) s.append(rarely(2) ? " + " : "-").append(product(open));
        return s.toString();
    }

    private String law() {
        if (!rarely(3)) {
            String[] lively = {"knees - doubt", "knees - doubt + oiled", "knees * 2 - doubt / 2", "1 + knees / 3",
                "if minute < 4 then 0 - 2 else knees", "if doubt < knees then 3 else 0 - 1", "knees - on",
                "step * 10 - sore", "borne - sore * 3", "borne / sore + step", "if 9 < step then 0 - step else step"};
            return lively[random.nextInt(lively.length)];
        }
        StringBuilder s = new StringBuilder();
        for (int i = pick(0, 6); i > 2; i--) s.append("if ").append(sum(0)).append("<").append(sum(0)).append(" then ").append(sum(0)).append(" else ");
        return s.append(sum(0)).toString();
    }

    private String text() {
        StringBuilder s = new StringBuilder();
        if (!rarely(4)) s.append("stair ").append(pick(1, rarely(3) ? 99 : 25)).append(";");
        int pilgrims = pick(0, 8);
        for (int p = 0; p < pilgrims; p++) {
            s.append("pilgrim ").append((char) ('a' + p)).append(rarely(2) ? "bc" : "").append(" ")
                .append(pick(0, rarely(8) ? 99 : 12)).append(" ").append(pick(0, 4)).append(" ").append(pick(0, rarely(3) ? 9 : 2))
                .append(" ").append(pick(1, rarely(3) ? 99 : 6)).append("\n").append(pick(0, rarely(3) ? 99 : 4))
                .append(rarely(2) ? " kneels" : "").append("; ");
            if (rarely(12)) s.append("oil ").append(pick(0, 99)).append(";");
        }
        if (!rarely(4)) s.append("moves = ").append(law()).append(";");
        if (!rarely(3)) s.append("has=").append(law()).append(";");
        if (rarely(2)) s.append("\toil ").append(pick(0, 9)).append(";");
        return s.toString();
    }

    /** A text in which something has been put, taken, or changed. */
    private String spoiled(String text) {
        String[] bits = {";", "=", "+", "-", "*", "/", "<", "(", ")", ".", "#", "0", "100", "5", "99999", "if", "kneels", "abcdefghi",
            "abcdefgh", " pilgrim a 1 1 1 1 1;", "stair 0;", "oil 100;", "then", "else", " step ", "\u0000", "\u00e9", "A",
            "moves=((((((1))))));", "has=(((((((1)))))));", "moves=if 1<2 then 1 else if 1<2 then 1 else if 1<2 then 1 else if 1<2 then 1 else 5;",
            "has=if 1<2 then 1 else if 1<2 then 1 else if 1<2 then 1 else if 1<2 then 1 else if 1<2 then 1 else 5;"};
        int at = random.nextInt(text.length() + 1);
        int to = rarely(2) ? at : Math.min(text.length(), at + pick(1, 5));
        if (rarely(6)) to = text.length();
        return text.substring(0, at) + (rarely(4) ? "" : bits[random.nextInt(bits.length)]) + text.substring(to);
    }

    /** A text without SYNTAX, but now and then with numbers and names that are not right, or with too much. */
    private String doubtful() {
        StringBuilder s = new StringBuilder(text());
        int most = rarely(3) ? 130 : 4;
        for (int i = pick(0, most); i > 0; i--) {
            int way = pick(0, most > 4 ? 40 : 5);
            if (way == 0) s.append("stair ").append(rarely(2) ? pick(0, 100) : pick(1, 99)).append(";");
            else if (way == 1) s.append("pilgrim ").append((char) ('a' + pick(0, 25))).append(" ").append(pick(0, 100)).append(" ")
                .append(rarely(9) ? 5 : 1).append(" ").append(rarely(9) ? 10 : 9).append(" ").append(rarely(9) ? 0 : 99).append(" ")
                .append(rarely(9) ? 100 : 7).append(";");
            else if (way == 2) s.append("has=").append("(".repeat(pick(5, 7)));
            else s.append("oil ").append(rarely(40) ? 100 : pick(0, 99)).append(";");
            if (way == 2) s.append("1)))))").append(rarely(2) ? ");" : ";");
        }
        return s.toString();
    }

    private void readText(String text) {
        byte[] bytes = Check.bytes(text.length() > 1980 ? text.substring(0, 1980) : text);
        int rest = (20 - bytes.length % 20) % 20;
        byte[] padded = Arrays.copyOf(bytes, bytes.length + rest);
        for (int i = 0; i < padded.length; i += 20) {
            int[] w = new int[5];
            for (int j = 0; j < 5; j++) w[j] = Check.word(padded, i + 4 * j);
            check.due("feed", stair.feed(w[0], w[1], w[2], w[3], w[4]), model.feed(w[0], w[1], w[2], w[3], w[4]));
        }
        check.due("back(" + rest + ")", stair.back(rest), model.back(rest));
        check.due("read() of " + text, stair.read(), model.read());
        check.due("place() of " + text, stair.place(), model.place());
    }

    // ---- calls

    private int one() {
        return pick(rarely(15) ? -1 : 0, rarely(10) ? 8 : Math.max(0, model.count(0) - 1));
    }

    private int span() {
        int[] edges = {0, -1, 1, 100, 101, 300, 301, 99};
        return rarely(12) ? edges[random.nextInt(edges.length)] : pick(1, 14);
    }

    private int what() {
        return rarely(15) ? pick(-1, 2) : pick(0, 1);
    }

    private void call() {
        int a = one(), b = one(), n = span(), w = what(), i = pick(-1, 3);
        boolean below = rarely(2);
        switch (pick(0, 48)) {
            case 0: check.due("pilgrim " + a, stair.pilgrim(a, i + 2), model.pilgrim(a, i + 2)); break;
            case 1: check.due("moves", stair.moves(), model.moves()); break;
            case 2: case 3: case 4: check.due("kneel " + a, stair.kneel(a), model.kneel(a)); break;
            case 5: check.due("rise " + a, stair.rise(a), model.rise(a)); break;
            case 6: check.due("board " + a, stair.board(a), model.board(a)); break;
            case 7: { int more = rarely(5) ? pick(-1, 100) : pick(1, 6); check.due("oil", stair.oil(more), model.oil(more)); break; }
            case 8: case 9: case 10: { int m = rarely(6) ? n : pick(0, 3); check.due("run " + m, stair.run(m), model.run(m)); break; }
            case 11: check.due("undo", stair.undo(), model.undo()); break;
            case 12: check.due("arrives " + a, stair.arrives(a), model.arrives(a)); break;
            case 13: check.due("still", stair.still(), model.still()); break;
            case 14: check.due("highest " + a + " " + n, stair.highest(a, n), model.highest(a, n)); break;
            case 15: check.due("first " + w, stair.first(w), model.first(w)); break;
            case 16: check.due("means " + a + " " + b + " " + n, stair.means(a, b, n), model.means(a, b, n)); break;
            case 17: check.due("oiled " + a + " " + n, stair.oiled(a, n), model.oiled(a, n)); break;
            case 18: check.due("doubted " + a + " " + n, stair.doubted(a, n), model.doubted(a, n)); break;
            case 19: check.due("bestStart " + a + " " + n, stair.bestStart(a, n, w), model.bestStart(a, n, w)); break;
            case 20: check.due("meet " + a + " " + b, stair.meet(a, b), model.meet(a, b)); break;
            case 21: check.due("most " + w, stair.most(w), model.most(w)); break;
            case 22: check.due("lowest " + n, stair.lowest(n), model.lowest(n)); break;
            case 23: check.due("bestTwo " + n + " " + w, stair.bestTwo(n, w), model.bestTwo(n, w)); break;
            case 24: check.due("exchange " + a + " " + n, stair.exchange(a, n, w), model.exchange(a, n, w)); break;
            case 25: check.due("rank " + a, stair.rank(a), model.rank(a)); break;
            case 26: check.due("share " + a, stair.share(a, below), model.share(a, below)); break;
            case 27: { int step = pick(-1, 100); check.due("there " + step, stair.there(step), model.there(step)); break; }
            case 28: case 29: { int k = rarely(10) ? pick(0, 9) : pick(1, 3); check.due("kneelers " + k + " " + n + " " + w, stair.kneelers(k, n, w), model.kneelers(k, n, w)); break; }
            case 30: case 31: check.due("rests " + n + " " + i, stair.rests(n, i), model.rests(n, i)); break;
            case 32: case 33: case 45: case 46: tellOne(a); break;
            case 34: {
                check.due("forget", stair.forget(), model.forget());
                secretRiser = pick(0, 7);
                secretMinute = pick(-1, 5);
                break;
            }
            case 35: case 36: case 47: case 48: { int k = pick(-1, model.count(9) + 1); check.due("secret " + k + " " + i, stair.secret(k, i), model.secret(k, i)); break; }
            case 37: { int k = pick(-1, model.count(9) + 1); check.due("off " + k, stair.off(k), model.off(k)); break; }
            case 38: { int slot = pick(-1, 3); check.due("hold " + slot, stair.hold(slot), model.hold(slot)); break; }
            case 39: { int slot = pick(-1, 3); check.due("restore " + slot, stair.restore(slot), model.restore(slot)); break; }
            case 40: { int c = pick(-1, 11); check.due("count " + c, stair.count(c), model.count(c)); break; }
            case 41: if (rarely(6)) readText(rarely(2) ? spoiled(text()) : text()); break;
            default: everything(); break;
        }
    }

    /** What is TOLD is mostly so in a run in which somebody rose, so that SECRET has something to find. */
    private void tellOne(int p) {
        int minute = rarely(8) ? pick(-1, 100) : pick(0, 6);
        int step = rarely(12) ? pick(-1, 100) : model.stepIfRose(secretRiser, secretMinute, p, minute);
        check.due("tell", stair.tell(p, minute, step), model.tell(p, minute, step));
    }

    private void everything() {
        for (int c = -1; c <= 11; c++) check.due("count " + c, stair.count(c), model.count(c));
        for (int p = -1; p <= 8; p++) {
            for (int what = -1; what <= 8; what++) check.due("pilgrim " + p + " " + what, stair.pilgrim(p, what), model.pilgrim(p, what));
        }
        check.due("moves", stair.moves(), model.moves());
    }

    public static void main(String[] args) {
        Check check = new Check();
        for (long seed = 1; seed <= RUNS; seed++) {
            RandomRunsTest run = new RandomRunsTest(seed, check);
            run.readText(run.text());
            for (int i = 0; i < CALLS; i++) run.call();
            run.everything();
        }
        RandomRunsTest faults = new RandomRunsTest(-1, check);
        for (int i = 0; i < FAULT_RUNS; i++) {
            String text = faults.text();
            for (int spoils = faults.pick(0, 2); spoils > 0; spoils--) text = faults.spoiled(text);
            if (faults.rarely(2)) text = faults.doubtful();
            faults.readText(text);
            faults.everything();
        }
        check.end();
    }
}

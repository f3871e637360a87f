import java.util.function.Supplier;

/** Part II of the terms and promises 6 to 13, 23, 27 to 29, 36 to 38, each sentence that names a bound. */
public final class StairBoundsTest {
    private static final Check check = new Check();
    private static final Traces traces = new Traces(check);
    private static final int LEAST = Integer.MIN_VALUE;
    private static final int GREATEST = Integer.MAX_VALUE;
    /** As laws tell them: the least int and the greatest. */
    private static final String MIN = "8192 * 8192 * 32";
    private static final String MAX = "(8192 * 8192 * 32 - 1)";

    private static void due(String call, long got, long want) {
        check.due(call, got, want);
    }

    private static void due(String call, boolean got, boolean want) {
        check.due(call, got, want);
    }

    private static void pilgrim(KneeStair x, int p, int... want) {
        for (int what = 0; what < want.length; what++) {
            due("pilgrim(" + p + ", " + what + ")", x.pilgrim(p, what), want[what]);
        }
    }

    public static void main(String[] args) {
        movesHeld();
        borne();
        steps();
        arrived();
        sore();
        oilGone();
        ifs();
        wraps();
        divisions();
        dividedBy0();
        hasHeld();
        varsOfOthers();
        pilgrimAsked();
        movesOfNone();
        kneel();
        rise();
        board();
        oil();
        run();
        undo();
        most();
        rank();
        share();
        there();
        hold();
        restore();
        count();
        check.end();
    }

    // ---- II

    private static KneeStair moving(String law) {
        return Check.told("stair 99; pilgrim a 50 2 0 99 0 kneels; moves = " + law + ";");
    }

    private static void movesHeld() {
        check.about("the stair MOVES by what that LAW tells, held to -9 .. 9");
        String[] laws = {"8", "9", "10", "9999", MAX, "0 - 8", "0 - 9", "0 - 10", "0 - 9999", MIN};
        int[] held = {8, 9, 9, 9, 9, -8, -9, -9, -9, -9};
        for (int i = 0; i < laws.length; i++) {
            KneeStair x = moving(laws[i]);
            due("moves by " + laws[i], x.moves(), held[i]);
            x.run(1);
            due("his step by " + laws[i], x.pilgrim(0, 0), 50 + held[i]);
            due("moved in all by " + laws[i], x.count(6), held[i]);
            due("borne by " + laws[i], x.pilgrim(0, 3), Math.max(0, 2 * held[i]));
        }
    }

    private static void borne() {
        check.about("BORNE grows by his KNEES times how far it MOVES, if that is above 0");
        String[] laws = {"1", "0", "0 - 1"};
        int[] borne = {4, 0, 0};
        for (int i = 0; i < laws.length; i++) {
            KneeStair x = Check.told("stair 9; pilgrim a 5 4 0 9 0 kneels; pilgrim b 5 4 0 9 0; pilgrim c 5 0 0 9 0 kneels;"
                    + " pilgrim d 8 3 0 9 0 kneels; pilgrim e 9 3 0 9 0 kneels; moves = " + laws[i] + ";");
            x.run(1);
            due("who kneels", x.pilgrim(0, 3), borne[i]);
            due("who stands", x.pilgrim(1, 3), 0);
            due("who has no knees", x.pilgrim(2, 3), 0);
            due("who arrives by it", x.pilgrim(3, 3), borne[i] * 3 / 4);
            due("who had arrived", x.pilgrim(4, 3), 0);
        }
        KneeStair x = Check.told("stair 99; pilgrim a 50 4 0 99 0 kneels; moves = 3 - minute * 3;");
        x.run(4);
        due("moved down behind it", x.pilgrim(0, 3), 12);
        due("moved in all", x.count(6), 3 - 3 - 6);
    }

    private static void steps() {
        check.about("below 0: lower, 0 at least");
        int[] from = {0, 1, 2, 3, 8, 9, 10};
        for (int step : from) {
            KneeStair x = Check.told("stair 20; pilgrim a " + step + " 0 0 1 0; pilgrim b 20 0 0 1 0; moves = 0 - 2;");
            x.run(1);
            due("2 lower than " + step, x.pilgrim(0, 0), Math.max(0, step - 2));
            due("who has ARRIVED", x.pilgrim(1, 0), 20);
            KneeStair y = Check.told("stair 20; pilgrim a " + step + " 0 0 1 0; moves = 0 - 9;");
            y.run(1);
            due("9 lower than " + step, y.pilgrim(0, 0), Math.max(0, step - 9));
            due("it moved all 9", y.count(6), -9);
        }
    }

    private static void arrived() {
        check.about("who is at TOP or above it has ARRIVED at TOP, in this MINUTE, and kneels no more");
        KneeStair x = Check.told("stair 10; pilgrim a 4 1 0 9 0 kneels; pilgrim b 5 1 0 9 0 kneels; pilgrim c 6 1 0 9 0 kneels; pilgrim d 9 1 0 9 0;"
                + " moves = if minute < 3 then 0 else 5;");
        x.run(3);
        pilgrim(x, 1, 5, 1, 3, 0, -2);
        x.run(1);
        pilgrim(x, 0, 9, 1, 4, 5, -2);
        pilgrim(x, 1, 10, 0, 3, 5, 3);
        pilgrim(x, 2, 10, 0, 3, 5, 3);
        pilgrim(x, 3, 10, 0, 0, 0, 3);
        due("ON", x.count(3), 1);
        x.run(1);
        pilgrim(x, 0, 10, 0, 4, 10, 4);
        x.run(300);
        pilgrim(x, 0, 10, 0, 4, 10, 4);
        pilgrim(x, 1, 10, 0, 3, 5, 3);
        due("ON", x.count(3), 0);
        due("in minute 0", behind(1, "stair 1; pilgrim a 0 0 0 1 0; moves = 1;").pilgrim(0, 4), 0);
        due("by 9 from 0", behind(11, "stair 99; pilgrim a 0 0 0 1 0; moves = 9;").pilgrim(0, 4), 10);
        due("not by 9 times 10", behind(10, "stair 99; pilgrim a 0 0 0 1 0; moves = 9;").pilgrim(0, 0), 90);
    }

    private static KneeStair behind(int minutes, String text) {
        KneeStair x = Check.told(text);
        x.run(minutes);
        return x;
    }

    private static void sore() {
        check.about("if he kneels, he is SORE by 1 more, and if that is as much as he may get, he rises");
        KneeStair x = Check.told("pilgrim a 0 1 0 1 0 kneels; pilgrim b 0 1 0 2 0 kneels; pilgrim c 0 1 0 99 0 kneels; pilgrim d 0 1 0 9 0; moves = 0;");
        x.run(1);
        pilgrim(x, 0, 0, 0, 1);
        pilgrim(x, 1, 0, 1, 1);
        pilgrim(x, 2, 0, 1, 1);
        x.run(1);
        pilgrim(x, 1, 0, 0, 2);
        x.run(96);
        pilgrim(x, 2, 0, 1, 98);
        x.run(1);
        pilgrim(x, 2, 0, 0, 99);
        check.about("else he is SORE by 1 less (0 at least)");
        pilgrim(x, 0, 0, 0, 0);
        pilgrim(x, 1, 0, 0, 0);
        pilgrim(x, 3, 0, 0, 0);
        x.run(1);
        pilgrim(x, 2, 0, 0, 98);
        pilgrim(x, 3, 0, 0, 0);
        x.run(97);
        pilgrim(x, 2, 0, 0, 1);
        x.run(1);
        pilgrim(x, 2, 0, 0, 0);
        x.run(1);
        pilgrim(x, 2, 0, 0, 0);
        due("he does not kneel by himself again", behind(300, "pilgrim a 0 1 0 1 0 kneels; moves = knees;").pilgrim(0, 0), 1);
    }

    private static void oilGone() {
        check.about("OIL is 1 less (0 at least); then it is the next minute");
        KneeStair x = Check.told("oil 2;");
        int[] left = {2, 1, 0, 0, 0};
        for (int minute = 0; minute < left.length; minute++) {
            due("oil", x.count(5), left[minute]);
            due("minute", x.count(2), minute);
            x.run(1);
        }
        due("oil 99 behind 98", behind(98, "oil 99;").count(5), 1);
        due("oil 99 behind 99", behind(99, "oil 99;").count(5), 0);
        due("oil 99 behind 300", behind(300, "oil 99;").count(5), 0);
    }

    // ---- LAWS

    private static int has(String law) {
        return Check.told("pilgrim a 5 3 0 9 0 kneels; pilgrim b 1 1 4 9 0; oil 6; has = " + law + ";").pilgrim(0, 5);
    }

    private static void ifs() {
        check.about("the E of the first if that holds (one less than the other), else the last one");
        due("less", has("if 1 < 2 then 5 else 6"), 5);
        due("as much", has("if 2 < 2 then 5 else 6"), 6);
        due("more", has("if 3 < 2 then 5 else 6"), 6);
        due("-1 < 0", has("if 0 - 1 < 0 then 5 else 6"), 5);
        due("0 < -1", has("if 0 < 0 - 1 then 5 else 6"), 6);
        due("least < greatest", has("if " + MIN + " < " + MAX + " then 5 else 6"), 5);
        due("greatest < least", has("if " + MAX + " < " + MIN + " then 5 else 6"), 6);
        due("least < least", has("if " + MIN + " < " + MIN + " then 5 else 6"), 6);
        String four = "if %s < 1 then 1 else if %s < 1 then 2 else if %s < 1 then 3 else if %s < 1 then 4 else 5";
        for (int holds = 0; holds < 16; holds++) {
            Object[] each = new Object[4];
            for (int i = 0; i < 4; i++) {
                each[i] = (holds >> i & 1) == 1 ? "0" : "1";
            }
            due("ifs " + holds, has(String.format(four, each)), holds == 0 ? 5 : Integer.numberOfTrailingZeros(holds) + 1);
        }
        String deep = "1+2*(1+2*(1+2*(1+2*(1+2*(1+2*(1+2*3))))))";
        due("the deepest, behind four ifs that do not hold", has(("if 999 < " + deep + " then 1 else ").repeat(4) + deep), 511);
        due("the deepest of the fourth if", has(("if 999 < " + deep + " then 1 else ").repeat(3) + "if 5 < " + deep + " then " + deep + " else 1"), 511);
    }

    private static void wraps() {
        check.about("ints of 32 bits that wrap");
        due("greatest + 1", has("if " + MAX + " + 1 < 0 then 1 else 2"), 1);
        due("least - 1", has("if 0 < " + MIN + " - 1 then 1 else 2"), 1);
        due("greatest + 1 - least", has(MAX + " + 1 - " + MIN), 0);
        due("greatest * 2", has(MAX + " * 2"), -2);
        due("greatest * greatest", has(MAX + " * " + MAX), 1);
        due("2 to the 32nd", has("256 * 256 * 256 * 256 + 7"), 7);
        // 999,700,029,999 less 233 times 2 to the 32nd is -1,027,349,969
        due("9999 to the 3rd", has("9999 * 9999 * 9999 / 1000 / 1000"), -1027);
        due("0 - least", has("if 0 - " + MIN + " < 0 then 1 else 2"), 1);
    }

    private static void divisions() {
        check.about("/ rounded towards 0");
        int[][] by = {{7, 2, 3}, {-7, 2, -3}, {7, -2, -3}, {-7, -2, 3}, {1, 2, 0}, {-1, 2, 0}, {1, -2, 0}, {6, 3, 2}, {-6, 3, -2}, {0, 5, 0}, {0, -5, 0}};
        for (int[] row : by) {
            due(row[0] + " by " + row[1], has("(" + told(row[0]) + ") / (" + told(row[1]) + ")"), row[2]);
        }
        due("least by -1", has("if " + MIN + " / (0 - 1) < 0 then 1 else 2"), 1);
        due("least by least", has("(" + MIN + ") / (" + MIN + ")"), 1);
        due("greatest by least", has(MAX + " / (" + MIN + ")"), 0);
    }

    private static String told(int number) {
        return number < 0 ? "0 - " + -number : "" + number;
    }

    private static void dividedBy0() {
        check.about("a LAW in which something that is looked at is divided by 0 is 0");
        String[] zeros = {"1 / 0", "5 + 1 / 0", "5 + 0 / 0", "1 / 0 * 0 + 5", "5 - 1 / (3 - knees)", "9 / (1 / 2)", "(1 / 0)",
            "if 1 / 0 < 2 then 5 else 6", "if 2 < 1 / 0 then 5 else 6", "if 1 < 2 then 1 / 0 else 6", "if 2 < 1 then 5 else 1 / 0",
            "if 2 < 1 then 5 else if 1 / 0 < 1 then 5 else 6", "5 / (step - 5)", MIN + " / 0", "0 - 1 / 0"};
        for (String law : zeros) {
            due(law, has(law), 0);
            due("moves = " + law, Check.told("pilgrim a 5 3 0 9 0 kneels; pilgrim b 1 1 4 9 0; moves = " + law + ";").moves(),
                    law.contains("step") ? -1 : 0);
        }
        due("not looked at", has("if 1 < 2 then 5 else 1 / 0"), 5);
        due("not looked at", has("if 2 < 1 then 1 / 0 else 6"), 6);
        due("not looked at", has("if 1 < 2 then 5 else if 1 / 0 < 2 then 6 else 7"), 5);
        due("by what is not 0 now", has("5 + 9 / (4 - knees)"), 14);
    }

    private static void hasHeld() {
        check.about("HAS held to -9999 .. 9999");
        due("9998", has("9998"), 9998);
        due("9999", has("9999"), 9999);
        due("10000", has("9999 + 1"), 9999);
        due("the greatest", has(MAX), 9999);
        due("-9998", has("0 - 9998"), -9998);
        due("-9999", has("0 - 9999"), -9999);
        due("-10000", has("0 - 9999 - 1"), -9999);
        due("the least", has(MIN), -9999);
        due("held behind it all, not within", has("9999 + 9999 - 9999 - 9999 + 3"), 3);
    }

    private static void varsOfOthers() {
        check.about("knees, doubt, on: of who is ON it; step, sore, borne: of the PILGRIM (MOVES: 0)");
        String text = "stair 9; pilgrim a 5 3 2 9 0 kneels; pilgrim b 1 1 4 9 0; pilgrim c 9 4 8 9 0 kneels; pilgrim d 9 4 8 9 0; ";
        due("knees", Check.told(text + "moves = knees;").moves(), 3);
        due("doubt", Check.told(text + "moves = doubt;").moves(), 4);
        due("on", Check.told(text + "moves = on;").moves(), 2);
        due("MOVES: 0", behind(1, text + "moves = 2 + step + sore + borne;").moves(), 2);
        KneeStair x = behind(2, text + "moves = 1; has = step * 1000 + sore * 100 + borne;");
        due("of a", x.pilgrim(0, 5), 7206);
        due("of b", x.pilgrim(1, 5), 3000);
        due("of c, who has ARRIVED", x.pilgrim(2, 5), 9000);
        due("minute and oil", behind(3, text + "oil 7; has = minute * 10 + oiled;").pilgrim(3, 5), 34);
        due("nobody is ON it", Check.told("stair 1; pilgrim a 1 4 4 9 0 kneels; moves = knees + doubt + on;").moves(), 0);
    }

    // ---- promises

    private static void pilgrimAsked() {
        check.about("6: -10000 for others");
        for (int p : new int[] {LEAST, -1, 3, 7, 8, GREATEST}) {
            for (int what = 0; what < 8; what++) {
                int some = what;
                traces.refused("pilgrim(" + p + ", " + what + ")", Traces::busy, x -> x.pilgrim(p, some), -10000);
            }
        }
        for (int what : new int[] {LEAST, -2, -1, 8, 9, GREATEST}) {
            for (int p = 0; p < 3; p++) {
                due("pilgrim(" + p + ", " + what + ")", Traces.busy().pilgrim(p, what), -10000);
            }
        }
        due("of none", new KneeStair().pilgrim(0, 0), -10000);
        due("the eighth", eight().pilgrim(7, 7), 8);
        due("the ninth", eight().pilgrim(8, 7), -10000);
        check.about("6: HAS may be -1, too");
        due("has", has("0 - 1"), -1);
        check.about("6: 4 in which MINUTE he ARRIVED (-2: he is ON it; as told in the beginning: 0)");
        due("ON", Traces.busy().pilgrim(0, 4), -2);
        due("ARRIVED", Traces.busy().pilgrim(2, 4), 0);
    }

    private static KneeStair eight() {
        StringBuilder text = new StringBuilder("stair 9;");
        for (int p = 0; p < 8; p++) {
            text.append("pilgrim ").append((char) ('a' + p)).append(" ").append(p).append(" 1 1 9 ").append(p + 1).append(";");
        }
        return Check.told(text.append("moves = knees;").toString());
    }

    private static void movesOfNone() {
        check.about("7: what MOVES tells now, nobody being there");
        due("moves", new KneeStair().moves(), 0);
        due("moves", Check.told("moves = 7 + on;").moves(), 7);
        traces.nothingHappens("moves", Traces::busy, x -> x.moves());
    }

    /** b, who has ARRIVED with soreness 2 of 3; a may get SORE by 2 and is so by 1, kneeling; c by 1 and is so. */
    private static KneeStair sorely() {
        KneeStair x = Check.told("stair 9; pilgrim a 0 1 0 2 0; pilgrim b 6 1 0 3 0 kneels; pilgrim c 0 1 0 1 0; moves = if minute < 2 then 0 else 3;");
        x.run(2);
        x.kneel(0);
        x.kneel(2);
        x.run(1);
        return x;
    }

    private static void kneel() {
        check.about("8: false, and nothing happens: he kneels already, has ARRIVED, is too SORE, no such one");
        pilgrim(sorely(), 0, 3, 1, 1, 3, -2);
        pilgrim(sorely(), 1, 9, 0, 2, 3, 2);
        pilgrim(sorely(), 2, 3, 0, 1, 3, -2);
        traces.refused("he kneels already", StairBoundsTest::sorely, x -> x.kneel(0), false);
        traces.refused("has ARRIVED", StairBoundsTest::sorely, x -> x.kneel(1), false);
        traces.refused("is too SORE", StairBoundsTest::sorely, x -> x.kneel(2), false);
        for (int p : new int[] {LEAST, -1, 3, 8, GREATEST}) {
            traces.refused("kneel(" + p + ")", StairBoundsTest::sorely, x -> x.kneel(p), false);
        }
        traces.refused("kneel(0) of none", Traces::idle, x -> x.kneel(0), false);
        check.about("KNEEL: who is ON it and less SORE than he may get kneels");
        KneeStair x = sorely();
        x.rise(0);
        due("SORE by 1 of 2", x.kneel(0), true);
        due("he kneels", x.pilgrim(0, 1), 1);
        x.run(1);
        pilgrim(x, 0, 6, 0, 2);
        due("SORE by 2 of 2", x.kneel(0), false);
        due("SORE by 0 of 1", x.kneel(2), true);
    }

    private static void rise() {
        check.about("9: false, and nothing happens: he does not kneel, no such one");
        traces.refused("has ARRIVED", StairBoundsTest::sorely, x -> x.rise(1), false);
        traces.refused("has risen", StairBoundsTest::sorely, x -> x.rise(2), false);
        for (int p : new int[] {LEAST, -1, 3, 8, GREATEST}) {
            traces.refused("rise(" + p + ")", StairBoundsTest::sorely, x -> x.rise(p), false);
        }
        traces.refused("rise(0) of none", Traces::idle, x -> x.rise(0), false);
        KneeStair x = sorely();
        due("rise", x.rise(0), true);
        pilgrim(x, 0, 3, 0, 1, 3, -2);
        due("rise again", x.rise(0), false);
        due("things done", x.count(8), 5);
    }

    private static void board() {
        check.about("10: false, and nothing happens: he is ON it, no such one");
        traces.refused("he is ON it", StairBoundsTest::sorely, x -> x.board(0), false);
        for (int p : new int[] {LEAST, -1, 3, 8, GREATEST}) {
            traces.refused("board(" + p + ")", StairBoundsTest::sorely, x -> x.board(p), false);
        }
        traces.refused("board(0) of none", Traces::idle, x -> x.board(0), false);
        check.about("BOARD: ON it again, at STEP 0, standing, SORE as he was");
        KneeStair x = sorely();
        due("board", x.board(1), true);
        pilgrim(x, 1, 0, 0, 2, 3, -2);
        due("ON", x.count(3), 3);
        due("board again", x.board(1), false);
        due("SORE by 2 of 3", x.kneel(1), true);
        x.run(1);
        pilgrim(x, 1, 3, 0, 3, 6, -2);
        KneeStair told = Check.told("stair 5; pilgrim a 99 1 1 1 1 kneels;");
        due("who was there in the beginning", told.board(0), true);
        pilgrim(told, 0, 0, 0, 0, 0, -2);
    }

    private static void oil() {
        check.about("11: OIL is so much more (1 .. 99; 999 at most)");
        for (int n : new int[] {LEAST, -1, 0, 100, 999, GREATEST}) {
            traces.refused("oil(" + n + ")", Traces::busy, x -> x.oil(n), -1);
            traces.refused("oil(" + n + ") of none", Traces::idle, x -> x.oil(n), -1);
        }
        due("oil(1)", new KneeStair().oil(1), 1);
        due("oil(99)", new KneeStair().oil(99), 99);
        due("oil(99) on 99", Check.told("oil 99;").oil(99), 198);
        Supplier<KneeStair> with990 = () -> {
            KneeStair x = new KneeStair();
            for (int i = 0; i < 10; i++) {
                x.oil(99);
            }
            return x;
        };
        due("990", with990.get().count(5), 990);
        due("oil(9) on 990", with990.get().oil(9), 999);
        for (int n : new int[] {10, 11, 99}) {
            traces.refused("oil(" + n + ") on 990", with990, x -> x.oil(n), -1);
        }
        KneeStair full = with990.get();
        full.oil(9);
        due("oil(1) on 999", full.oil(1), -1);
        full.run(1);
        due("oil(1) on 998", full.oil(1), 999);
        due("oil(1) on 999", full.oil(1), -1);
    }

    private static void run() {
        check.about("12: n MINUTES (0 .. 300; 0 is no thing done); NONE, and nothing happens: no such n");
        for (int n : new int[] {LEAST, -300, -1, 301, 302, GREATEST}) {
            traces.refused("run(" + n + ")", Traces::busy, x -> x.run(n), -1);
            traces.refused("run(" + n + ") of none", Traces::idle, x -> x.run(n), -1);
        }
        traces.refused("run(0)", Traces::busy, x -> x.run(0), 2);
        traces.refused("run(0) of none", Traces::idle, x -> x.run(0), 0);
        KneeStair x = new KneeStair();
        due("run(1)", x.run(1), 1);
        due("run(300)", x.run(300), 301);
        due("run(299)", x.run(299), 600);
        due("things done", x.count(8), 3);
        due("a run of many is one thing", x.undo(), true);
        due("minute", x.count(2), 301);
    }

    private static void undo() {
        check.about("13: the last 50 can be; false: there is none");
        traces.refused("undo of none", Traces::idle, x -> x.undo(), false);
        for (int many : new int[] {1, 49, 50, 51, 52, 100, 101}) {
            KneeStair x = new KneeStair();
            for (int i = 0; i < many; i++) {
                x.run(1);
            }
            int can = Math.min(50, many);
            due("things of " + many, x.count(8), can);
            for (int i = 1; i <= can; i++) {
                due("undo " + i + " of " + many, x.undo(), true);
                due("minute", x.count(2), many - i);
                due("things left", x.count(8), can - i);
            }
            due("undo of no more", x.undo(), false);
            due("minute", x.count(2), many - can);
            x.oil(1);
            due("one more", x.count(8), 1);
            due("undo of one more", x.undo(), true);
            due("no more", x.undo(), false);
        }
        check.about("13: the last thing done (kneel, rise, board, oil, run) is undone");
        KneeStair x = sorely();
        traces.nothingHappens("kneel, and undo", () -> risen(), y -> y.kneel(0) && y.undo());
        traces.nothingHappens("rise, and undo", StairBoundsTest::sorely, y -> y.rise(0) && y.undo());
        traces.nothingHappens("board, and undo", StairBoundsTest::sorely, y -> y.board(1) && y.undo());
        traces.nothingHappens("oil, and undo", StairBoundsTest::sorely, y -> y.oil(9) > 0 && y.undo());
        traces.nothingHappens("run, and undo", StairBoundsTest::sorely, y -> y.run(300) > 0 && y.undo());
        due("things done", x.count(8), 4);
        x.tell(0, 0, 0);
        x.hold(0);
        x.forget();
        x.kneel(0);
        x.run(0);
        x.run(301);
        due("no others are things done", x.count(8), 4);
    }

    private static KneeStair risen() {
        KneeStair x = sorely();
        x.rise(0);
        return x;
    }

    private static void most() {
        check.about("23: of alike ones the first; -2: no PILGRIMS; NONE for others");
        KneeStair x = Check.told("stair 99; pilgrim a 0 1 0 9 0 kneels; pilgrim b 0 2 0 9 0 kneels; pilgrim c 0 2 0 9 0 kneels; moves = 1;");
        due("nothing borne: who", x.most(0), 0);
        due("nothing borne: how much", x.most(1), 0);
        x.run(1);
        due("who", x.most(0), 1);
        due("how much", x.most(1), 2);
        for (int what : new int[] {LEAST, -2, -1, 2, 3, GREATEST}) {
            traces.refused("most(" + what + ")", Traces::busy, y -> y.most(what), -1);
            traces.refused("most(" + what + ") of none", Traces::idle, y -> y.most(what), -1);
        }
        due("of none", new KneeStair().most(0), -2);
        due("of none", new KneeStair().most(1), -2);
        KneeStair full = eight();
        full.kneel(7);
        full.run(1);
        due("the last of eight", full.most(0), 7);
        due("eight, nothing borne", eight().most(0), 0);
        due("the last one", behind(1, "stair 99; pilgrim a 0 1 0 9 0 kneels; pilgrim b 0 1 0 9 0; pilgrim c 0 2 0 9 0 kneels; moves = 1;").most(0), 2);
    }

    private static void rank() {
        check.about("27: at a greater STEP, or at the same and of a lesser number; NONE: no such one");
        KneeStair x = Check.told("stair 9; pilgrim a 5 1 0 9 0; pilgrim b 9 1 0 9 0; pilgrim c 5 1 0 9 0; pilgrim d 99 1 0 9 0; pilgrim e 4 1 0 9 0; pilgrim f 6 1 0 9 0;");
        int[] want = {3, 0, 4, 1, 5, 2};
        for (int p = 0; p < want.length; p++) {
            due("rank(" + p + ")", x.rank(p), want[p]);
        }
        for (int p : new int[] {LEAST, -1, 3, 8, GREATEST}) {
            traces.refused("rank(" + p + ")", Traces::busy, y -> y.rank(p), -1);
        }
        due("of none", new KneeStair().rank(0), -1);
        due("the only one", Check.told("pilgrim a 0 0 0 1 0;").rank(0), 0);
        due("the last of eight", eight().rank(0), 7);
    }

    private static void share() {
        check.about("28: a fraction that cannot be lessened (0 by 1, if nothing is); NONE: no such one");
        KneeStair x = Check.told("stair 99; pilgrim a 0 4 0 99 0 kneels; pilgrim b 0 2 0 99 0 kneels; pilgrim c 0 0 0 9 0 kneels; moves = 3;");
        for (int p = 0; p < 3; p++) {
            due("nothing is, above", x.share(p, false), 0);
            due("nothing is, below", x.share(p, true), 1);
        }
        x.run(3);
        int[][] want = {{2, 3}, {1, 3}, {0, 1}};
        for (int p = 0; p < 3; p++) {
            due("above", x.share(p, false), want[p][0]);
            due("below", x.share(p, true), want[p][1]);
        }
        KneeStair all = behind(1, "pilgrim a 0 4 0 9 0 kneels; moves = 1;");
        due("all of it", all.share(0, false), 1);
        due("all of it", all.share(0, true), 1);
        for (int p : new int[] {LEAST, -1, 3, 8, GREATEST}) {
            traces.refused("share(" + p + ", false)", Traces::busy, y -> y.share(p, false), -1);
            traces.refused("share(" + p + ", true)", Traces::busy, y -> y.share(p, true), -1);
        }
        due("of none", new KneeStair().share(0, true), -1);
        KneeStair full = behind(1, "stair 9; pilgrim a 0 1 0 9 0 kneels; pilgrim b 0 1 0 9 0 kneels; pilgrim c 0 1 0 9 0 kneels; pilgrim d 0 1 0 9 0 kneels;"
                + "pilgrim e 0 1 0 9 0 kneels; pilgrim f 0 1 0 9 0 kneels; pilgrim g 0 1 0 9 0 kneels; pilgrim h 0 3 0 9 0 kneels; moves = 1;");
        due("the first of eight, above", full.share(0, false), 1);
        due("the first of eight, below", full.share(0, true), 10);
        due("the last of eight, above", full.share(7, false), 3);
        KneeStair prime = Check.told("stair 99; pilgrim a 0 3 0 99 0 kneels; pilgrim b 0 4 0 99 0 kneels; moves = 1;");
        prime.run(1);
        prime.rise(0);
        prime.run(3);
        due("3 of 19", prime.share(0, false), 3);
        due("3 of 19", prime.share(0, true), 19);
        due("16 of 19", prime.share(1, false), 16);
    }

    private static void there() {
        check.about("29: how many are at a STEP (0 .. 99), ARRIVED or not; NONE: no such one");
        KneeStair x = Check.told("stair 99; pilgrim a 0 1 0 9 0; pilgrim b 0 1 0 9 0; pilgrim c 98 1 0 9 0; pilgrim d 99 1 0 9 0;");
        due("there(0)", x.there(0), 2);
        due("there(1)", x.there(1), 0);
        due("there(98)", x.there(98), 1);
        due("there(99)", x.there(99), 1);
        for (int step : new int[] {LEAST, -1, 100, 101, GREATEST}) {
            traces.refused("there(" + step + ")", Traces::busy, y -> y.there(step), -1);
        }
        due("of none", new KneeStair().there(0), 0);
        due("of none", new KneeStair().there(99), 0);
        due("of none", new KneeStair().there(100), -1);
        KneeStair low = Check.told("stair 3; pilgrim a 3 1 0 9 0; pilgrim b 77 1 0 9 0;");
        due("at TOP", low.there(3), 2);
        due("above TOP", low.there(77), 0);
    }

    private static void hold() {
        check.about("36: held in a SLOT (0 .. 2): true; false: no such one");
        for (int slot : new int[] {LEAST, -1, 3, 4, GREATEST}) {
            traces.refused("hold(" + slot + ")", Traces::busy, x -> x.hold(slot), false);
            traces.refused("hold(" + slot + ") of none", Traces::idle, x -> x.hold(slot), false);
        }
        for (int slot = 0; slot < 3; slot++) {
            KneeStair x = new KneeStair();
            due("hold(" + slot + ")", x.hold(slot), true);
            due("SLOTS", x.count(10), 1);
            for (int other = 0; other < 3; other++) {
                due("restore(" + other + ")", x.restore(other), other == slot);
            }
        }
        KneeStair x = new KneeStair();
        for (int slot = 0; slot < 3; slot++) {
            x.hold(slot);
            due("SLOTS", x.count(10), slot + 1);
        }
        x.run(5);
        due("a full SLOT", x.hold(1), true);
        due("SLOTS", x.count(10), 3);
        due("things done", x.count(8), 1);
        int[] minutes = {0, 5, 0};
        for (int slot = 0; slot < 3; slot++) {
            x.restore(slot);
            due("the minute of " + slot, x.count(2), minutes[slot]);
        }
    }

    private static void restore() {
        check.about("37: false, and nothing happens: no such one, nothing is held");
        for (int slot : new int[] {LEAST, -1, 1, 3, 4, GREATEST}) {
            traces.refused("restore(" + slot + ")", Traces::busy, x -> x.restore(slot), false);
        }
        for (int slot = -1; slot < 4; slot++) {
            int some = slot;
            traces.refused("restore(" + slot + ") of none", Traces::idle, x -> x.restore(some), false);
        }
        check.about("37: they go on from what a SLOT holds (that stays there; nothing can be undone then)");
        KneeStair x = Traces.busy();
        due("restore(0)", x.restore(0), true);
        pilgrim(x, 0, 2, 1, 1, 4, -2);
        pilgrim(x, 1, 6, 1, 1, 2, -2);
        pilgrim(x, 2, 10, 0, 0, 0, 0);
        due("minute", x.count(2), 1);
        due("oil", x.count(5), 1);
        due("things done", x.count(8), 0);
        due("undo", x.undo(), false);
        due("SLOTS", x.count(10), 2);
        due("TOLD", x.count(9), 2);
        due("bytes", x.count(7), 20);
        x.run(3);
        due("minute", x.count(2), 4);
        due("things done", x.count(8), 1);
        due("that stays there", x.restore(0), true);
        due("minute", x.count(2), 1);
        due("the other one", x.restore(2), true);
        pilgrim(x, 1, 10, 0, 1, 9, 1);
        due("minute", x.count(2), 2);
        due("oil", x.count(5), 3);
    }

    private static void count() {
        check.about("38: -10000 for others");
        for (int what : new int[] {LEAST, -2, -1, 11, 12, GREATEST}) {
            traces.refused("count(" + what + ")", Traces::busy, x -> x.count(what), -10000);
            traces.refused("count(" + what + ") of none", Traces::idle, x -> x.count(what), -10000);
        }
        check.about("38: 0 to 10");
        int[] want = {3, 10, 2, 2, 1, 3, 9, 20, 5, 2, 2};
        for (int what = 0; what < want.length; what++) {
            due("count(" + what + ")", Traces.busy().count(what), want[what]);
        }
        due("6: down counts off, it may be -1, too", behind(1, "moves = 0 - 1;").count(6), -1);
        due("6: up and down", behind(2, "moves = if minute < 1 then 7 else 0 - 3;").count(6), 4);
        due("6: nobody being there", behind(300, "moves = 9;").count(6), 2700);
        due("the most of all", eight().count(0), 8);
    }
}

/** Each promise of the document: ordinary inputs, edges, wrong inputs. The answers were worked out by hand. */
public final class PromisesTest {
    private static final Check check = new Check();

    /** Moves 2, 4, 2, then -1 for good: c arrives in minute 0, b in minute 1, a gets too sore in minute 2. */
    private static final String THREE = "stair 10; pilgrim a 0 2 1 3 5 kneels; pilgrim b 4 1 2 2 3 kneels;"
            + " pilgrim c 9 4 3 9 9; moves = knees - doubt + oiled; oil 2;";

    private static void due(String call, long got, long want) {
        check.due(call, got, want);
    }

    private static void due(String call, boolean got, boolean want) {
        check.due(call, got, want);
    }

    public static void main(String[] args) {
        newObject();
        feedAndBack();
        syntax();
        room();
        twiceAndWrong();
        readReplaces();
        laws();
        pilgrimAndMinutes();
        kneelRiseBoard();
        oilRunUndo();
        arrivesStillHighestFirst();
        meansOiledDoubted();
        bestStart();
        meetMostLowest();
        bestTwo();
        exchange();
        rankShareThere();
        kneelers();
        rests();
        tellForgetSecretOff();
        holdRestore();
        counts();
        check.end();
    }

    private static void newObject() {
        check.about("promise 1");
        KneeStair x = new KneeStair();
        due("NONE", KneeStair.NONE, -1);
        int[] want = {0, 20, 0, 0, 0, 0, 0, 0, 0, 0, 0};
        for (int i = 0; i < want.length; i++) {
            due("count(" + i + ")", x.count(i), want[i]);
        }
        due("place", x.place(), -1);
        due("moves", x.moves(), 0);
        due("undo", x.undo(), false);
        due("run", x.run(300), 300);
    }

    private static void feedAndBack() {
        check.about("promises 2, 3");
        KneeStair x = new KneeStair();
        due("back of none", x.back(1), -1);
        due("back(0) of none", x.back(0), 0);
        // "stai" "r 7;" and blanks: the highest byte is the first
        due("feed", x.feed(0x73746169, 0x7220373b, 0x20202020, 0x090a0d20, 0x20202020), 20);
        due("read", x.read(), 0);
        due("top", x.count(1), 7);
        due("tape", x.count(7), 0);
        for (int i = 1; i <= 100; i++) {
            due("feed " + i, x.feed(0, 0, 0, 0, 0), 20 * i);
        }
        due("feed 101", x.feed(0, 0, 0, 0, 0), -1);
        due("tape", x.count(7), 2000);
        due("back(-1)", x.back(-1), -1);
        due("back(2001)", x.back(2001), -1);
        due("back(min)", x.back(Integer.MIN_VALUE), -1);
        due("back(max)", x.back(Integer.MAX_VALUE), -1);
        due("back(19)", x.back(19), 1981);
        due("feed on 1981", x.feed(0, 0, 0, 0, 0), -1);
        due("tape", x.count(7), 1981);
        due("back(1)", x.back(1), 1980);
        due("feed on 1980", x.feed(0, 0, 0, 0, 0), 2000);
        due("back(0)", x.back(0), 2000);
        due("back(2000)", x.back(2000), 0);
    }

    private static void fault(int number, String text) {
        check.dueFault(number, text);
    }

    private static void syntax() {
        check.about("promises 4, 5, SYNTAX");
        fault(0, "");
        fault(0, "stair20;pilgrim a 1 2 3 4 5kneels;oil\t0\n9\r;".replace("0\n9", "9\n"));
        fault(0, "stair 0007;");
        fault(0, "pilgrim abcdefgh 1 1 1 1 1; pilgrim a 1 1 1 1 1 kneels;");
        fault(1, "stair 20");
        fault(1, "stair 20 \n ");
        fault(1, "stair");
        fault(1, "stair 20;@;");
        fault(1, "@stairs 20;");
        fault(1, "@Stair 20;");
        fault(1, "@20;");
        fault(1, "stair @a;");
        fault(1, "stair @12345;");
        fault(1, "stair @00001;");
        fault(1, "stair 20@.");
        fault(1, "stair@\u000b20;");
        fault(1, "stair @\u0000;");
        fault(1, "stair 2@\u00e9;");
        fault(1, "stair @-1;");
        fault(1, "pilgrim @abcdefghi 1 1 1 1 1;");
        fault(1, "pilgrim @step 1 1 1 1 1;");
        fault(1, "pilgrim @kneels 1 1 1 1 1;");
        fault(1, "pilgrim a 1 1 1 1@;");
        fault(1, "pilgrim a 1 1 1 1 @kneels;");
        fault(1, "pilgrim a 1 1 1 1 1 @1;");
        fault(1, "pilgrim a 1 1 1 1 1 kneels @kneels;");
        fault(1, "moves @1;");
        fault(1, "moves = @;");
        fault(1, "moves = 1 + @;");
        fault(1, "moves = @- 1;");
        fault(1, "moves = 1 @knees;");
        fault(1, "moves = (1@;");
        fault(1, "moves = 1@);");
        fault(1, "moves = 1 @< 2;");
        fault(1, "moves = (1 @< 2);");
        fault(1, "moves = (@if 1 < 2 then 1 else 2);");
        fault(1, "moves = if 1 @then 2 else 3;");
        fault(1, "moves = if 1 < 2 @else 3;");
        fault(1, "moves = if 1 < 2 then 1@;");
        fault(1, "moves = if 1 < 2 then @if 1 < 2 then 1 else 2;");
        fault(1, "has = @foo;");
        fault(1, "has = on");
        fault(1, "oil 1 @1;");
        fault(1, "stair 200; oil @;");
    }

    private static void room() {
        check.about("promises 4, 5, what has gone from the tape");
        KneeStair x = new KneeStair();
        Check.feed(x, Check.bytes("stair 1234567890;   "));
        x.back(10);
        due("read", x.read(), 1);
        due("place", x.place(), 10);
        Check.feed(x, Check.bytes("pilgrim abcdefghi 11"));
        x.back(4);
        due("read", x.read(), 1);
        due("place", x.place(), 16);
        Check.feed(x, Check.bytes("stair 12;           "));
        x.back(11);
        due("read", x.read(), 0);
        due("top", x.count(1), 12);
        check.about("promises 4, 5, ROOM");
        String oils132 = "oil 1;".repeat(132);
        fault(0, oils132 + "has=1;");
        fault(0, oils132 + "has=1;  \n");
        fault(2, oils132 + "oil 1;oil @1");
        fault(1, oils132 + "oil 1;oil @;");
        fault(1, oils132 + "oil 1;oil @\u0001");
        fault(1, oils132 + "oil 1;oil ");
        fault(2, oils132 + "has=1;@oil 1;");
        fault(1, oils132 + "has=1;@1");
        fault(2, oils132 + "has=1+@1");
        String eight = "";
        for (char c = 'a'; c < 'i'; c++) {
            eight += "pilgrim " + c + " 1 1 1 1 1;";
        }
        fault(0, eight);
        fault(2, eight + "oil 1; @pilgrim i 1 1 1 1 1;");
        fault(2, eight + "@pilgrim pilgrim");
        fault(2, eight.replace("pilgrim b 1", "pilgrim a 100") + "@pilgrim i");
        String ifElse = "if 1 < 2 then 3 else ";
        fault(0, "moves = " + ifElse.repeat(4) + "1; has = " + ifElse.repeat(4) + "1;");
        fault(2, "has = " + ifElse.repeat(4) + "@" + ifElse + "1;");
        fault(0, "moves = ((((((1)))))) + ((((((1))))));");
        fault(2, "moves = ((((((@(1)))))));");
        fault(2, "moves = 1 * (2 + (3 / (4 - (5 + (6 + (7 + @(");
        fault(0, "moves = (1)+(1)+(1)+(1)+(1)+(1)+(1)+(1);");
    }

    private static void twiceAndWrong() {
        check.about("promises 4, 5, TWICE and WRONG");
        fault(3, "pilgrim a 1 1 1 1 1; pilgrim b 1 1 1 1 1; pilgrim @a 1 1 1 1 1; stair 0;");
        fault(5, "stair @0; pilgrim a 1 1 1 1 1; pilgrim a 1 1 1 1 1;");
        fault(3, "pilgrim a 1 1 1 1 1; pilgrim @a 100 1 1 1 1;");
        fault(1, "stair 0; pilgrim a 1 1 1 1 1; pilgrim a 1 1 1 1 1; @a");
        fault(0, "pilgrim ab 1 1 1 1 1; pilgrim b 1 1 1 1 1; pilgrim aab 1 1 1 1 1;");
        fault(0, "stair 1; stair 99;");
        fault(5, "stair @100;");
        fault(5, "stair @0; stair 5;");
        fault(0, "pilgrim a 99 4 9 99 99; pilgrim b 0 0 0 1 0;");
        fault(5, "pilgrim a @100 5 10 0 100;");
        fault(5, "pilgrim a 99 @5 10 0 100;");
        fault(5, "pilgrim a 99 4 @10 0 100;");
        fault(5, "pilgrim a 99 4 9 @0 100;");
        fault(5, "pilgrim a 99 4 9 @100 100;");
        fault(5, "pilgrim a 99 4 9 99 @100;");
        fault(5, "oil @100;");
        fault(0, "oil 99; has = 9999;");
    }

    private static void readReplaces() {
        check.about("promise 4, in place of the one ahead");
        KneeStair x = Check.told(THREE);
        x.run(2);
        x.hold(1);
        x.tell(0, 0, 0);
        Check.feed(x, Check.bytes("stair 3; stair 5; oops"));
        due("read", x.read(), 1);
        due("place", x.place(), 18);
        due("place again", x.place(), 18);
        due("tape", x.count(7), 0);
        due("top", x.count(1), 10);
        due("minute", x.count(2), 2);
        due("things done", x.count(8), 1);
        due("told", x.count(9), 1);
        due("held", x.count(10), 1);
        due("moved", x.count(6), 6);
        Check.feed(x, Check.bytes("stair 3; stair 5; pilgrim z 7 1 1 1 8 kneels; pilgrim y 4 4 0 9 9 kneels; oil 3; oil 4;"
                + "moves = 1; moves = 2; has = 1; has = minute + 7;"));
        due("read", x.read(), 0);
        due("place", x.place(), -1);
        int[] want = {2, 5, 0, 1, 1, 4, 0, 0, 0, 0, 0};
        for (int i = 0; i < want.length; i++) {
            due("count(" + i + ")", x.count(i), want[i]);
        }
        int[] arrived = {5, 0, 0, 0, 0, 7, 1, 8};
        int[] on = {4, 1, 0, 0, -2, 7, 4, 9};
        for (int i = 0; i < 8; i++) {
            due("pilgrim(0, " + i + ")", x.pilgrim(0, i), arrived[i]);
            due("pilgrim(1, " + i + ")", x.pilgrim(1, i), on[i]);
        }
        due("moves", x.moves(), 2);
        due("restore", x.restore(1), false);
        due("undo", x.undo(), false);
        due("empty read", x.read(), 0);
        due("pilgrims", x.count(0), 0);
        due("top", x.count(1), 20);
    }

    private static int has(String law) {
        return Check.told("pilgrim p 7 3 0 9 0 kneels; pilgrim q 1 0 4 9 0; moves = 2; oil 6; has = " + law + ";").pilgrim(0, 5);
    }

    private static int movesBy(String law) {
        return Check.told("pilgrim p 7 3 0 9 0 kneels; pilgrim q 1 0 4 9 0; oil 6; moves = " + law + ";").moves();
    }

    private static void laws() {
        check.about("promises 6, 7, LAWS");
        due("vars", has("knees * 1000 + doubt * 100 + oiled * 10 + on"), 3462);
        due("vars", has("step * 1000 + sore * 100 + borne * 10 + minute"), 7000);
        due("in MOVES", movesBy("step + sore + borne + 1"), 1);
        due("order", has("2 + 3 * 4 - 10 / 3"), 11);
        due("to the left", has("10 - 3 - 2"), 5);
        due("to the left", has("100 / 10 / 5 * 3"), 6);
        due("much that waits", has("1+2*(1+2*(1+2*(1+2*(1+2*(1+2*(1+2*3))))))"), 511);
        due("much that waits", has("if 1 < 1+2*(1+2*(1+2*(1+2*(1+2*(1+2*(1+2*3)))))) then 8 else 9"), 8);
        due("the longest", Check.told("pilgrim a 1 1 1 1 1; has=" + "1+".repeat(193) + "1;").pilgrim(0, 5), 194);
        due("( )", has("(2 + 3) * (4 - 1)"), 15);
        due("rounded towards 0", has("(0 - 7) / 2"), -3);
        due("rounded towards 0", has("7 / (0 - 2)"), -3);
        due("wraps", has("256 * 256 * 256 * 256 + 5"), 5);
        due("wraps", has("8192 * 8192 * 32 / 1000 / 1000"), -2147);
        due("held above", has("9999 + 1"), 9999);
        due("held below", has("0 - 9999 - 1"), -9999);
        due("-1", has("0 - 1"), -1);
        due("least by -1", has("(0 - 8192 * 8192 * 32) / (0 - 1)"), -9999);
        due("0 below", has("5 + 1 / 0"), 0);
        due("0 below times 0", has("5 + 0 * (1 / (doubt - 4))"), 0);
        due("0 below, 0 above", has("5 + 0 / 0"), 0);
        due("0 below in what is not looked at", has("if 1 < 2 then 5 else 1 / 0"), 5);
        due("0 below in what is not looked at", has("if 2 < 1 then 1 / 0 else 6"), 6);
        due("0 below in an if", has("if 1 / 0 < 2 then 5 else 6"), 0);
        due("0 below in an if", has("if 1 < 2 / 0 then 5 else 6"), 0);
        due("0 below in a later if", has("if 1 < 2 then 5 else if 1 / 0 < 2 then 7 else 8"), 5);
        due("not less", has("if 2 < 2 then 5 else 6"), 6);
        due("the first if", has("if 1 < 0 then 1 else if 0 < 1 then 2 else if 0 < 1 then 3 else 4"), 2);
        due("the fourth if", has("if 1 < 0 then 1 else if 1 < 0 then 2 else if 1 < 0 then 3 else if knees < doubt then 4 else 5"), 4);
        due("below 0", has("if 0 - 1 < 0 then 1 else 2"), 1);
        due("held above", movesBy("10"), 9);
        due("held below", movesBy("0 - 10"), -9);
        due("0 below", movesBy("3 / 0"), 0);
        due("the usual MOVES", Check.told("pilgrim p 7 3 9 9 0 kneels; pilgrim q 1 0 4 9 0;").moves(), -1);
        due("the usual HAS", Check.told("pilgrim p 7 3 9 9 0 kneels;").pilgrim(0, 5), 7);
        KneeStair x = Check.told("stair 8; pilgrim p 7 3 9 9 0 kneels; pilgrim q 1 2 4 9 0; moves = 1;"
                + "has = step * 1000 + sore * 100 + borne * 10 + on;");
        x.run(1);
        due("of one who arrived", x.pilgrim(0, 5), 8031);
        due("of the other", x.pilgrim(1, 5), 2001);
        due("knees of who arrived", Check.told("stair 3; pilgrim p 3 3 9 9 0 kneels; moves = knees + doubt + on;").moves(), 0);
    }

    private static void pilgrim(KneeStair x, int p, int... want) {
        for (int i = 0; i < want.length; i++) {
            due("pilgrim(" + p + ", " + i + ")", x.pilgrim(p, i), want[i]);
        }
    }

    private static void pilgrimAndMinutes() {
        check.about("promises 6, 7, 12, MINUTES");
        KneeStair x = Check.told(THREE);
        pilgrim(x, 0, 0, 1, 0, 0, -2, 0, 2, 5);
        due("moves", x.moves(), 2);
        due("run", x.run(1), 1);
        pilgrim(x, 0, 2, 1, 1, 4, -2, 2, 2, 5);
        pilgrim(x, 1, 6, 1, 1, 2, -2, 6, 1, 3);
        pilgrim(x, 2, 10, 0, 0, 0, 0, 10, 4, 9);
        due("moves", x.moves(), 4);
        due("oil", x.count(5), 1);
        due("run", x.run(1), 2);
        pilgrim(x, 0, 6, 1, 2, 12, -2);
        pilgrim(x, 1, 10, 0, 1, 6, 1);
        due("run", x.run(1), 3);
        pilgrim(x, 0, 8, 0, 3, 16, -2);
        due("moves", x.moves(), -1);
        due("run", x.run(1), 4);
        pilgrim(x, 0, 7, 0, 2, 16, -2);
        due("moved", x.count(6), 7);
        due("run", x.run(300), 304);
        pilgrim(x, 0, 0, 0, 0, 16, -2);
        pilgrim(x, 1, 10, 0, 1, 6, 1);
        due("moved", x.count(6), -293);
        due("oil", x.count(5), 0);
        due("pilgrim(-1, 0)", x.pilgrim(-1, 0), -10000);
        due("pilgrim(3, 0)", x.pilgrim(3, 0), -10000);
        due("pilgrim(0, -1)", x.pilgrim(0, -1), -10000);
        due("pilgrim(0, 8)", x.pilgrim(0, 8), -10000);
        due("run(-1)", x.run(-1), -1);
        due("run(301)", x.run(301), -1);
        due("run(0)", x.run(0), 304);
        due("things done", x.count(8), 5);
        KneeStair down = Check.told("pilgrim a 3 2 0 9 0 kneels; moves = 0 - 2;");
        down.run(1);
        pilgrim(down, 0, 1, 1, 1, 0);
        down.run(1);
        pilgrim(down, 0, 0, 1, 2, 0);
    }

    private static void kneelRiseBoard() {
        check.about("promises 8, 9, 10");
        KneeStair x = Check.told("stair 9; pilgrim a 0 1 0 2 0; pilgrim b 9 1 0 1 0; moves = knees * 3;");
        due("rise of one who stands", x.rise(0), false);
        due("kneel", x.kneel(0), true);
        due("kneel again", x.kneel(0), false);
        due("kneel of one who arrived", x.kneel(1), false);
        due("kneel of none", x.kneel(2), false);
        due("kneel of none", x.kneel(-1), false);
        due("rise", x.rise(0), true);
        due("rise again", x.rise(0), false);
        due("rise of one who arrived", x.rise(1), false);
        due("rise of none", x.rise(-1), false);
        due("rise of none", x.rise(2), false);
        due("things done", x.count(8), 2);
        x.kneel(0);
        x.run(2);
        pilgrim(x, 0, 6, 0, 2, 6, -2);
        due("kneel, too sore", x.kneel(0), false);
        due("board of one ON it", x.board(0), false);
        due("board of none", x.board(2), false);
        due("board of none", x.board(-1), false);
        x.run(1);
        due("kneel, less sore", x.kneel(0), true);
        due("things done", x.count(8), 6);
        x.run(1);
        pilgrim(x, 0, 9, 0, 1, 9, 3);
        due("board", x.board(0), true);
        pilgrim(x, 0, 0, 0, 1, 9, -2);
        due("board again", x.board(0), false);
        due("board of the other", x.board(1), true);
        due("ON", x.count(3), 2);
        due("kneel", x.kneel(1), true);
        x.run(1);
        pilgrim(x, 1, 3, 0, 1, 3, -2);
        pilgrim(x, 0, 3, 0, 0, 9, -2);
    }

    private static void oilRunUndo() {
        check.about("promises 11, 12, 13");
        KneeStair x = Check.told("oil 9;");
        due("oil(0)", x.oil(0), -1);
        due("oil(-5)", x.oil(-5), -1);
        due("oil(100)", x.oil(100), -1);
        due("oil(max)", x.oil(Integer.MAX_VALUE), -1);
        due("undo", x.undo(), false);
        for (int i = 1; i <= 10; i++) {
            due("oil(99)", x.oil(99), 9 + 99 * i);
        }
        due("oil(1)", x.oil(1), -1);
        due("undo", x.undo(), true);
        due("oil", x.count(5), 900);
        due("oil(98)", x.oil(98), 998);
        due("oil(2)", x.oil(2), -1);
        due("oil(1)", x.oil(1), 999);

        KneeStair y = Check.told(THREE);
        y.run(2);
        y.rise(0);
        y.board(1);
        y.kneel(1);
        y.oil(5);
        y.run(0);
        due("things done", y.count(8), 5);
        due("undo oil", y.undo(), true);
        due("oil", y.count(5), 0);
        due("undo kneel", y.undo(), true);
        pilgrim(y, 1, 0, 0, 1, 6, -2);
        due("undo board", y.undo(), true);
        pilgrim(y, 1, 10, 0, 1, 6, 1);
        due("undo rise", y.undo(), true);
        pilgrim(y, 0, 6, 1, 2, 12, -2);
        due("undo run", y.undo(), true);
        pilgrim(y, 0, 0, 1, 0, 0, -2);
        pilgrim(y, 2, 9, 0, 0, 0, -2);
        due("minute", y.count(2), 0);
        due("moved", y.count(6), 0);
        due("oil", y.count(5), 2);
        due("undo", y.undo(), false);

        KneeStair z = new KneeStair();
        for (int i = 1; i <= 53; i++) {
            z.oil(1);
            due("things done", z.count(8), Math.min(50, i));
        }
        for (int i = 1; i <= 50; i++) {
            due("undo " + i, z.undo(), true);
        }
        due("undo 51", z.undo(), false);
        due("oil", z.count(5), 3);
        due("oil(1)", z.oil(1), 4);
        due("undo", z.undo(), true);
        due("oil", z.count(5), 3);
    }

    private static void arrivesStillHighestFirst() {
        check.about("promises 14 to 17");
        KneeStair x = Check.told(THREE);
        due("arrives(0)", x.arrives(0), -2);
        due("arrives(1)", x.arrives(1), 2);
        due("arrives(2)", x.arrives(2), 1);
        due("arrives(3)", x.arrives(3), -1);
        due("arrives(-1)", x.arrives(-1), -1);
        due("still", x.still(), -2);
        due("highest(0, 0)", x.highest(0, 0), 0);
        due("highest(0, 2)", x.highest(0, 2), 6);
        due("highest(0, 300)", x.highest(0, 300), 8);
        due("highest(2, 1)", x.highest(2, 1), 10);
        due("highest(0, -1)", x.highest(0, -1), -1);
        due("highest(0, 301)", x.highest(0, 301), -1);
        due("highest(3, 1)", x.highest(3, 1), -1);
        due("first(0)", x.first(0), 2);
        due("first(1)", x.first(1), 1);
        due("first(2)", x.first(2), -1);
        due("first(-1)", x.first(-1), -1);
        x.run(1);
        due("arrives(2)", x.arrives(2), 0);
        due("first(0)", x.first(0), 1);
        due("first(1)", x.first(1), 1);
        x.run(1);
        due("first(0)", x.first(0), -2);
        due("first(1)", x.first(1), -2);
        due("minute", x.count(2), 2);
        KneeStair last = Check.told("stair 1; pilgrim a 0 0 0 1 0; moves = if minute < 299 then 0 else 1;");
        due("arrives at the last", last.arrives(0), 300);
        due("first", last.first(1), 300);
        due("still", last.still(), 0);
        KneeStair late = Check.told("stair 1; pilgrim a 0 0 0 1 0; moves = if minute < 300 then 0 else 1;");
        due("arrives too late", late.arrives(0), -2);
        due("first too late", late.first(0), -2);
        due("still at the last", Check.told("moves = if minute < 300 then 0 - 1 else 0;").still(), 300);
        due("still too late", Check.told("moves = if minute < 301 then 1 else 0;").still(), -2);
        due("still by soreness", Check.told("stair 99; pilgrim a 0 2 0 3 0 kneels;").still(), 3);
        KneeStair alike = Check.told("stair 9; pilgrim a 2 1 0 9 0; pilgrim b 5 1 0 9 0; pilgrim c 5 1 0 9 0; moves = 2;");
        due("first of alike ones", alike.first(0), 1);
        due("first of alike ones", alike.first(1), 2);
    }

    private static void meansOiledDoubted() {
        check.about("promises 18 to 20");
        KneeStair x = Check.told(THREE);
        due("means(2, 0, 1)", x.means(2, 0, 1), -3);
        due("means(0, 2, 1)", x.means(0, 2, 1), 1);
        due("means(0, 2, 300)", x.means(0, 2, 300), 10);
        due("means(0, 0, 1)", x.means(0, 0, 1), -10000);
        due("means(0, 3, 1)", x.means(0, 3, 1), -10000);
        due("means(-1, 0, 1)", x.means(-1, 0, 1), -10000);
        due("means(0, 1, 0)", x.means(0, 1, 0), -10000);
        due("means(0, 1, 301)", x.means(0, 1, 301), -10000);
        KneeStair on = Check.told("stair 50; pilgrim a 9 0 0 9 0; pilgrim b 9 0 0 9 0; pilgrim c 50 4 4 9 9; moves = 0 - on;");
        due("means by on", on.means(0, 1, 3), -3);
        due("means of one who arrived", on.means(2, 1, 3), 0);
        due("means for one who arrived", on.means(1, 2, 3), 0);
        due("oiled(0, 1)", x.oiled(0, 1), -2);
        due("oiled(0, 2)", x.oiled(0, 2), 2);
        due("oiled(1, 1)", x.oiled(1, 1), 4);
        due("oiled(2, 1)", x.oiled(2, 1), 0);
        due("oiled(3, 1)", x.oiled(3, 1), -1);
        due("oiled(0, 0)", x.oiled(0, 0), -1);
        due("oiled(0, 301)", x.oiled(0, 301), -1);
        due("doubted(2, 1)", x.doubted(2, 1), 1);
        due("doubted(1, 2)", x.doubted(1, 2), 0);
        due("doubted(0, 300)", x.doubted(0, 300), -2);
        due("doubted(3, 1)", x.doubted(3, 1), -1);
        due("doubted(0, 0)", x.doubted(0, 0), -1);
        due("doubted(0, 301)", x.doubted(0, 301), -1);
        due("oil stays", x.count(5), 2);
        x.run(1);
        due("oiled of one who arrived", x.oiled(2, 1), 0);
        due("doubted of one who arrived", x.doubted(2, 1), 300);
        due("the most oil", Check.told("stair 2; pilgrim a 0 0 0 1 0; moves = if oiled < 300 then 0 else 2;").oiled(0, 1), 300);
        due("too much oil", Check.told("stair 2; pilgrim a 0 0 0 1 0; moves = if oiled < 301 then 0 else 2;").oiled(0, 1), -2);
        KneeStair much = Check.told("stair 2; pilgrim a 0 0 0 1 0; moves = if oiled < 1200 then 0 else 2; oil 9;");
        for (int i = 0; i < 10; i++) {
            much.oil(99);
        }
        due("oil above what can be poured", much.oiled(0, 1), 201);
        due("just so much oil", Check.told("stair 2; pilgrim a 0 0 0 1 0; moves = 2 - (oiled - 7) * (oiled - 7);").oiled(0, 1), 7);
        due("just so much doubt", Check.told("stair 2; pilgrim a 0 0 0 1 0; moves = 2 - (doubt - 7) * (doubt - 7);").doubted(0, 1), 7);
        due("doubt of one who is not ON it", Check.told("stair 2; pilgrim a 0 0 0 1 0; moves = if 1 < on then 0 else 2;").doubted(0, 1), 300);
        due("doubt each minute", Check.told("stair 20; pilgrim a 0 4 0 9 0 kneels; moves = 9 - doubt;").doubted(0, 4), 4);
    }

    private static void bestStart() {
        check.about("promise 21");
        KneeStair x = Check.told("stair 50; pilgrim a 0 3 0 2 0; pilgrim b 50 3 0 2 0; moves = if minute < 3 then knees / 3 else knees;");
        due("bestStart(0, 6, 0)", x.bestStart(0, 6, 0), 3);
        due("bestStart(0, 6, 1)", x.bestStart(0, 6, 1), 6);
        due("bestStart(0, 3, 0)", x.bestStart(0, 3, 0), 0);
        due("bestStart(0, 3, 1)", x.bestStart(0, 3, 1), 2);
        due("bestStart(0, 300, 0)", x.bestStart(0, 300, 0), 3);
        x.kneel(0);
        due("bestStart(0, 6, 0)", x.bestStart(0, 6, 0), 3);
        x.run(1);
        due("bestStart(0, 5, 0)", x.bestStart(0, 5, 0), 2);
        due("bestStart(0, 5, 1)", x.bestStart(0, 5, 1), 7);
        x.run(1);
        due("bestStart(0, 1, 0)", x.bestStart(0, 1, 0), 0);
        due("bestStart(0, 1, 1)", x.bestStart(0, 1, 1), 2);
        due("bestStart(0, 2, 0)", x.bestStart(0, 2, 0), 1);
        due("bestStart(0, 2, 1)", x.bestStart(0, 2, 1), 5);
        due("of one who arrived", x.bestStart(1, 2, 1), -1);
        due("bestStart(2, 2, 0)", x.bestStart(2, 2, 0), -1);
        due("bestStart(0, 0, 0)", x.bestStart(0, 0, 0), -1);
        due("bestStart(0, 301, 0)", x.bestStart(0, 301, 0), -1);
        due("bestStart(0, 2, 2)", x.bestStart(0, 2, 2), -1);
        due("bestStart(0, 2, -1)", x.bestStart(0, 2, -1), -1);
        due("nothing happens", x.pilgrim(0, 0), 2);
    }

    private static void meetMostLowest() {
        check.about("promises 22 to 24");
        KneeStair x = Check.told(THREE);
        due("meet(0, 1)", x.meet(0, 1), -2);
        due("meet(1, 2)", x.meet(1, 2), 2);
        due("meet(2, 1)", x.meet(2, 1), 2);
        due("meet(0, 0)", x.meet(0, 0), -1);
        due("meet(0, 3)", x.meet(0, 3), -1);
        due("meet(-1, 0)", x.meet(-1, 0), -1);
        due("meet now", Check.told("pilgrim a 3 1 1 1 1; pilgrim b 3 1 1 1 1;").meet(0, 1), 0);
        due("meet at the last", Check.told("pilgrim a 0 1 1 1 1; pilgrim b 1 1 1 1 1; moves = if minute < 299 then 0 else 0 - 1;").meet(0, 1), 300);
        due("meet too late", Check.told("pilgrim a 0 1 1 1 1; pilgrim b 1 1 1 1 1; moves = if minute < 300 then 0 else 0 - 1;").meet(0, 1), -2);
        due("most(0)", x.most(0), 0);
        due("most(1)", x.most(1), 0);
        due("most(2)", x.most(2), -1);
        due("most(-1)", x.most(-1), -1);
        x.run(3);
        due("most(0)", x.most(0), 0);
        due("most(1)", x.most(1), 16);
        due("most of none", new KneeStair().most(0), -2);
        due("most of none", new KneeStair().most(1), -2);
        due("most(2) of none", new KneeStair().most(2), -1);
        KneeStair alike = Check.told("pilgrim a 0 1 0 9 0 kneels; pilgrim b 0 2 0 9 0 kneels; pilgrim c 0 2 0 9 0 kneels; moves = 1;");
        alike.run(2);
        due("most of alike ones", alike.most(0), 1);
        due("most of alike ones", alike.most(1), 4);
        KneeStair low = Check.told("stair 9; pilgrim a 8 1 0 9 0; pilgrim b 6 1 0 9 0; pilgrim c 9 1 0 9 0; moves = if minute < 1 then 0 - 4 else 3;");
        due("lowest(0)", low.lowest(0), 6);
        due("lowest(1)", low.lowest(1), 2);
        due("lowest(300)", low.lowest(300), 2);
        low.run(3);
        due("lowest(0)", low.lowest(0), 8);
        low.run(1);
        due("lowest of none", low.lowest(300), -2);
        due("lowest(-1)", low.lowest(-1), -1);
        due("lowest(301)", low.lowest(301), -1);
    }

    private static void bestTwo() {
        check.about("promise 25");
        String four = "stair 20; pilgrim a 0 1 0 1 0 kneels; pilgrim b 0 2 0 9 0; pilgrim c 0 3 0 9 0; pilgrim d 20 4 0 9 9; moves = ";
        KneeStair x = Check.told(four + "knees;");
        due("bestTwo(1, 0)", x.bestTwo(1, 0), 35);
        due("bestTwo(1, 1)", x.bestTwo(1, 1), 12);
        due("bestTwo(2, 0)", x.bestTwo(2, 0), 50);
        due("bestTwo(300, 0)", x.bestTwo(300, 0), 80);
        due("bestTwo(300, 1)", x.bestTwo(300, 1), 2);
        due("bestTwo(0, 0)", x.bestTwo(0, 0), -1);
        due("bestTwo(301, 0)", x.bestTwo(301, 0), -1);
        due("bestTwo(1, 2)", x.bestTwo(1, 2), -1);
        due("bestTwo(1, -1)", x.bestTwo(1, -1), -1);
        KneeStair alike = Check.told(four + "1;");
        due("alike", alike.bestTwo(1, 0), 23);
        due("alike", alike.bestTwo(1, 1), 1);
        alike.run(1);
        due("a is too sore", alike.bestTwo(1, 1), 12);
        KneeStair two = Check.told("stair 9; pilgrim a 0 1 0 9 0; pilgrim b 9 1 0 9 0;");
        due("no two", two.bestTwo(1, 0), -2);
        due("no two", two.bestTwo(1, 1), -2);
        due("no two, no such", two.bestTwo(1, 2), -1);
    }

    private static void exchange() {
        check.about("promise 26");
        String four = "stair 20; pilgrim a 0 1 0 9 0 kneels; pilgrim b 0 2 0 9 0; pilgrim c 0 3 0 1 0; pilgrim d 20 4 0 9 9; moves = ";
        KneeStair x = Check.told(four + "knees;");
        due("exchange(0, 1, 0)", x.exchange(0, 1, 0), 2);
        due("exchange(0, 1, 1)", x.exchange(0, 1, 1), 3);
        due("exchange(1, 2, 0)", x.exchange(1, 2, 0), 1);
        due("exchange(1, 2, 1)", x.exchange(1, 2, 1), 4);
        due("exchange for one who arrived", x.exchange(3, 1, 0), -2);
        due("exchange(4, 1, 0)", x.exchange(4, 1, 0), -1);
        due("exchange(0, 0, 0)", x.exchange(0, 0, 0), -1);
        due("exchange(0, 301, 0)", x.exchange(0, 301, 0), -1);
        due("exchange(0, 1, 2)", x.exchange(0, 1, 2), -1);
        due("exchange(0, 1, -1)", x.exchange(0, 1, -1), -1);
        KneeStair alike = Check.told(four + "if 1 < knees then 5 else 0;");
        due("alike", alike.exchange(2, 1, 0), 1);
        due("alike", alike.exchange(2, 1, 1), 5);
        alike.rise(0);
        due("nobody kneels", alike.exchange(2, 1, 0), -2);
        alike.kneel(1);
        due("no greater step", alike.exchange(2, 1, 0), -2);
        due("no greater step", alike.exchange(2, 1, 1), -2);
        KneeStair down = Check.told("stair 20; pilgrim a 5 4 0 9 0 kneels; pilgrim b 5 2 0 9 0 kneels; pilgrim c 5 1 0 9 0; moves = 5 - knees;");
        due("who rises", down.exchange(1, 1, 0), 2);
        due("who rises", down.exchange(1, 1, 1), 7);
    }

    private static void rankShareThere() {
        check.about("promises 27 to 29");
        KneeStair x = Check.told(THREE);
        due("share(0, false)", x.share(0, false), 0);
        due("share(0, true)", x.share(0, true), 1);
        x.run(3);
        due("rank(0)", x.rank(0), 2);
        due("rank(1)", x.rank(1), 0);
        due("rank(2)", x.rank(2), 1);
        due("rank(3)", x.rank(3), -1);
        due("rank(-1)", x.rank(-1), -1);
        due("share(0, false)", x.share(0, false), 8);
        due("share(0, true)", x.share(0, true), 11);
        due("share(1, false)", x.share(1, false), 3);
        due("share(1, true)", x.share(1, true), 11);
        due("share(2, false)", x.share(2, false), 0);
        due("share(2, true)", x.share(2, true), 1);
        due("share(3, true)", x.share(3, true), -1);
        due("share(-1, false)", x.share(-1, false), -1);
        due("there(10)", x.there(10), 2);
        due("there(8)", x.there(8), 1);
        due("there(0)", x.there(0), 0);
        due("there(99)", x.there(99), 0);
        due("there(100)", x.there(100), -1);
        due("there(-1)", x.there(-1), -1);
    }

    private static void kneelers() {
        check.about("promise 30");
        KneeStair x = Check.told("stair 5; pilgrim a 0 1 0 9 4; pilgrim b 0 2 0 9 4; pilgrim c 3 3 0 9 9 kneels; pilgrim d 5 4 0 9 0; moves = knees;");
        due("kneelers(1, 1, 0)", x.kneelers(1, 1, 0), 4);
        due("kneelers(1, 1, 1)", x.kneelers(1, 1, 1), 2);
        due("fewer knees", x.kneelers(1, 3, 0), 4);
        due("fewer knees", x.kneelers(1, 3, 1), 1);
        due("three where two would do", x.kneelers(2, 3, 0), 4);
        due("three where two would do", x.kneelers(2, 3, 1), 2);
        due("kneelers(3, 1, 0)", x.kneelers(3, 1, 0), 13);
        due("kneelers(3, 1, 1)", x.kneelers(3, 1, 1), 6);
        due("kneelers(4, 300, 0)", x.kneelers(4, 300, 0), -2);
        due("kneelers(8, 300, 1)", x.kneelers(8, 300, 1), -2);
        due("kneelers(0, 1, 0)", x.kneelers(0, 1, 0), -1);
        due("kneelers(9, 1, 0)", x.kneelers(9, 1, 0), -1);
        due("kneelers(1, 0, 0)", x.kneelers(1, 0, 0), -1);
        due("kneelers(1, 301, 0)", x.kneelers(1, 301, 0), -1);
        due("kneelers(1, 1, 2)", x.kneelers(1, 1, 2), -1);
        due("kneelers(1, 1, -1)", x.kneelers(1, 1, -1), -1);
        KneeStair alike = Check.told("stair 3; pilgrim a 0 0 0 9 1; pilgrim b 0 1 0 9 2; pilgrim c 0 1 0 9 2; moves = knees;");
        due("least bits", alike.kneelers(3, 3, 0), 2);
        due("least bits", alike.kneelers(3, 3, 1), 2);
        KneeStair nobody = Check.told("stair 3; pilgrim a 0 0 0 9 1 kneels; moves = 1;");
        due("nobody", nobody.kneelers(1, 3, 0), 0);
        due("nobody", nobody.kneelers(1, 3, 1), 0);
        due("too few minutes", nobody.kneelers(1, 2, 1), -2);
        KneeStair sore = Check.told("stair 3; pilgrim a 0 1 0 1 1 kneels; pilgrim b 0 1 0 2 5; moves = knees;");
        due("he rises and stays so", sore.kneelers(2, 300, 1), 3);
        sore.run(1);
        due("too sore now", sore.kneelers(2, 300, 1), 2);
    }

    private static void rests() {
        check.about("promise 31");
        String two = "stair 90; pilgrim a 0 1 0 9 0; pilgrim b 0 1 0 9 0; pilgrim c 90 1 0 9 0; moves = knees; has = step * 2 - ";
        KneeStair none = Check.told(two + "sore * 3;");
        due("how many", none.rests(1, -1), 1);
        due("which", none.rests(1, 0), 0);
        KneeStair both = Check.told(two + "sore;");
        due("how many", both.rests(1, -1), 1);
        due("which", both.rests(1, 0), 3);
        KneeStair any = Check.told(two + "sore * 2;");
        due("how many", any.rests(100, -1), 1);
        due("how many", any.rests(1, -1), 4);
        for (int i = 0; i < 4; i++) {
            due("which", any.rests(1, i), i);
        }
        due("not so many", any.rests(1, 4), -1);
        due("i -2", any.rests(1, -2), -1);
        due("n 0", any.rests(0, -1), -1);
        due("n 101", any.rests(101, -1), -1);
        due("nobody", new KneeStair().rests(100, -1), 1);
        due("nobody", new KneeStair().rests(100, 0), 0);
        KneeStair sore = Check.told("stair 90; pilgrim a 0 1 0 1 0 kneels; pilgrim b 0 1 0 9 0; moves = knees;");
        due("all kneel", sore.rests(1, 0), 3);
        sore.run(1);
        due("a is too sore", sore.rests(1, -1), 1);
        due("a is too sore", sore.rests(1, 0), 2);
    }

    private static void tellForgetSecretOff() {
        check.about("promises 32 to 35");
        KneeStair x = Check.told("stair 50; pilgrim a 0 2 0 9 0 kneels; pilgrim b 0 1 0 3 0 kneels; pilgrim c 0 0 0 9 0; moves = knees;");
        due("forget none", x.forget(), 0);
        due("tell(3, 0, 0)", x.tell(3, 0, 0), -1);
        due("tell(-1, 0, 0)", x.tell(-1, 0, 0), -1);
        due("tell(0, -1, 0)", x.tell(0, -1, 0), -1);
        due("tell(0, 100, 0)", x.tell(0, 100, 0), -1);
        due("tell(0, 0, -1)", x.tell(0, 0, -1), -1);
        due("tell(0, 0, 100)", x.tell(0, 0, 100), -1);
        due("secret(0, -1)", x.secret(0, -1), 0);
        due("secret(0, 0)", x.secret(0, 0), -1);
        due("off(0)", x.off(0), -2);
        due("tell(2, 1, 5)", x.tell(2, 1, 5), 0);
        due("off(1)", x.off(1), 0);
        due("off(2)", x.off(2), -1);
        due("off(-1)", x.off(-1), -1);
        due("secret(1, -1)", x.secret(1, -1), 1);
        due("secret(1, 0)", x.secret(1, 0), 101);
        due("secret(1, 1)", x.secret(1, 1), -1);
        due("secret(1, -2)", x.secret(1, -2), -1);
        due("secret(2, -1)", x.secret(2, -1), -1);
        due("secret(-1, -1)", x.secret(-1, -1), -1);
        due("tell(0, 0, 3)", x.tell(0, 0, 3), 1);
        due("secret(2, 0)", x.secret(2, 0), 101);
        due("tell(0, 0, 2)", x.tell(0, 0, 2), 2);
        due("secret(3, -1)", x.secret(3, -1), 0);
        due("secret(2, -1)", x.secret(2, -1), 1);
        due("forget", x.forget(), 3);
        due("told", x.count(9), 0);
        x.tell(2, 3, 11);
        due("off(1)", x.off(1), -2);
        due("he knelt no more", x.secret(1, -1), 1);
        due("he knelt no more", x.secret(1, 0), 103);
        x.tell(2, 0, 3);
        due("the last minute is not the last told", x.secret(2, 0), 103);
        x.tell(2, 5, 0);
        x.tell(2, 4, 0);
        due("the first by number", x.off(4), 2);
        x.forget();
        x.rise(0);
        x.run(1);
        x.oil(9);
        x.tell(2, 0, 3);
        due("nothing by hand", x.off(1), -2);
        x.forget();
        x.tell(2, 99, 50);
        due("behind the hundredth", x.off(1), 0);
        for (int i = 1; i < 20; i++) {
            due("tell " + i, x.tell(0, 99, 99), i);
        }
        due("tell 20", x.tell(0, 99, 99), -1);
        due("told", x.count(9), 20);
        due("not undone", x.count(8), 3);
        KneeStair y = Check.told("stair 90; pilgrim a 0 2 0 99 0 kneels; pilgrim b 90 2 0 99 0 kneels; pilgrim c 0 1 0 9 0; moves = knees - 1;");
        y.tell(2, 9, 6);
        y.tell(0, 9, 6);
        due("rose ahead of 8", y.secret(2, -1), 1);
        due("rose ahead of 8", y.secret(2, 0), 8);
        y.tell(2, 9, 7);
        due("not both", y.secret(3, -1), 0);
        KneeStair z = Check.told("stair 90; pilgrim a 0 1 0 99 0 kneels; pilgrim b 0 1 0 99 0 kneels; moves = knees;");
        z.tell(1, 4, 7);
        due("ways", z.secret(1, -1), 2);
        due("by pilgrims", z.secret(1, 0), 2);
        due("by pilgrims", z.secret(1, 1), 102);
    }

    private static void holdRestore() {
        check.about("promises 36, 37");
        KneeStair x = Check.told(THREE);
        due("restore nothing", x.restore(0), false);
        due("hold(-1)", x.hold(-1), false);
        due("hold(3)", x.hold(3), false);
        due("restore(-1)", x.restore(-1), false);
        due("restore(3)", x.restore(3), false);
        x.run(1);
        due("hold(2)", x.hold(2), true);
        due("held", x.count(10), 1);
        due("hold again", x.hold(2), true);
        due("held", x.count(10), 1);
        due("things done", x.count(8), 1);
        x.run(2);
        x.oil(7);
        x.board(1);
        x.tell(0, 0, 2);
        due("restore nothing", x.restore(1), false);
        due("things done", x.count(8), 4);
        due("restore(2)", x.restore(2), true);
        pilgrim(x, 0, 2, 1, 1, 4, -2);
        pilgrim(x, 1, 6, 1, 1, 2, -2);
        pilgrim(x, 2, 10, 0, 0, 0, 0);
        due("oil", x.count(5), 1);
        due("minute", x.count(2), 1);
        due("moved", x.count(6), 2);
        due("things done", x.count(8), 0);
        due("undo", x.undo(), false);
        due("told stays", x.count(9), 1);
        x.run(2);
        pilgrim(x, 0, 8, 0, 3, 16, -2);
        due("hold(0)", x.hold(0), true);
        due("held", x.count(10), 2);
        due("it stays there", x.restore(2), true);
        pilgrim(x, 0, 2, 1, 1, 4, -2);
        due("the other one", x.restore(0), true);
        pilgrim(x, 0, 8, 0, 3, 16, -2);
    }

    private static void counts() {
        check.about("promise 38");
        KneeStair x = Check.told(THREE);
        x.run(1);
        x.hold(0);
        x.tell(0, 0, 2);
        x.feed(0, 0, 0, 0, 0);
        int[] want = {3, 10, 1, 2, 2, 1, 2, 20, 1, 1, 1};
        for (int i = 0; i < want.length; i++) {
            due("count(" + i + ")", x.count(i), want[i]);
        }
        due("count(-1)", x.count(-1), -10000);
        due("count(11)", x.count(11), -10000);
        KneeStair down = Check.told("pilgrim a 0 1 1 1 1; moves = 0 - 1;");
        down.run(1);
        due("moved down", down.count(6), -1);
        due("he stays at 0", down.pilgrim(0, 0), 0);
    }
}

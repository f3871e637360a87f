import java.util.ArrayList;
import java.util.List;
import java.util.function.Function;

/** Part III of the terms and promises 14 to 22, 24 to 26, 30, 31, each sentence that names a bound. */
public final class ForecastBoundsTest {
    private static final Check check = new Check();
    private static final Traces traces = new Traces(check);
    private static final int LEAST = Integer.MIN_VALUE;
    private static final int GREATEST = Integer.MAX_VALUE;
    /** Pilgrims that busy() does not have. */
    private static final int[] NO_PILGRIMS = {LEAST, -2, -1, 3, 7, 8, GREATEST};
    private static final int[] NO_SPANS = {LEAST, -300, -1, 0, 301, 302, GREATEST};
    private static final int[] NO_WHATS = {LEAST, -2, -1, 2, 3, GREATEST};
    private static final int[] NO_MINUTES_FROM_0 = {LEAST, -2, -1, 301, 302, GREATEST};

    private static void due(String call, long got, long want) {
        check.due(call, got, want);
    }

    private static void refused(String call, Function<KneeStair, Object> asked, int want) {
        traces.refused(call, Traces::busy, asked, want);
    }

    public static void main(String[] args) {
        nothingHappens();
        oneBehindAnother();
        arrives();
        still();
        highest();
        first();
        means();
        oiled();
        doubted();
        bestStart();
        meet();
        lowest();
        bestTwo();
        exchange();
        kneelers();
        rests();
        check.end();
    }

    private static KneeStair told(String text) {
        return Check.told(text);
    }

    /** TOP 1, one at 0, whom a law is to bring there. */
    private static KneeStair one(String law) {
        return told("stair 1; pilgrim a 0 0 0 1 0; moves = " + law + ";");
    }

    private static KneeStair behind(int minutes, KneeStair x) {
        x.run(minutes);
        return x;
    }

    private static void nothingHappens() {
        check.about("III: what would be (nothing happens)");
        for (int p = 0; p < 3; p++) {
            int some = p;
            int other = (p + 1) % 3;
            traces.nothingHappens("arrives", Traces::busy, x -> x.arrives(some));
            traces.nothingHappens("highest", Traces::busy, x -> x.highest(some, 300));
            traces.nothingHappens("means", Traces::busy, x -> x.means(some, other, 300));
            traces.nothingHappens("oiled", Traces::busy, x -> x.oiled(some, 300));
            traces.nothingHappens("doubted", Traces::busy, x -> x.doubted(some, 300));
            traces.nothingHappens("bestStart", Traces::busy, x -> x.bestStart(some, 300, 0));
            traces.nothingHappens("meet", Traces::busy, x -> x.meet(some, other));
            traces.nothingHappens("exchange", Traces::busy, x -> x.exchange(some, 300, 0));
        }
        traces.nothingHappens("still", Traces::busy, x -> x.still());
        traces.nothingHappens("first", Traces::busy, x -> x.first(0));
        traces.nothingHappens("lowest", Traces::busy, x -> x.lowest(300));
        traces.nothingHappens("bestTwo", Traces::busy, x -> x.bestTwo(300, 0));
        traces.nothingHappens("kneelers", Traces::busy, x -> x.kneelers(1, 300, 0));
        traces.nothingHappens("rests", Traces::busy, x -> x.rests(100, -1));
    }

    /** What one question tries out is no more there when the next one is asked. */
    private static void oneBehindAnother() {
        check.about("III: the same answers behind other questions");
        List<Function<KneeStair, Object>> questions = List.of(x -> x.arrives(1), x -> x.still(), x -> x.highest(0, 3), x -> x.first(1),
                x -> x.means(1, 0, 2), x -> x.oiled(0, 2), x -> x.doubted(2, 4), x -> x.bestStart(1, 4, 1), x -> x.meet(0, 1), x -> x.lowest(3));
        List<Function<KneeStair, Object>> more = List.of(x -> x.bestTwo(3, 0), x -> x.exchange(0, 3, 1), x -> x.kneelers(1, 9, 1), x -> x.rests(3, -1),
                x -> x.secret(2, -1), x -> x.off(2), x -> x.moves(), x -> x.pilgrim(0, 5));
        List<Function<KneeStair, Object>> all = new ArrayList<>(questions);
        all.addAll(more);
        for (int i = 0; i < all.size(); i++) {
            for (int j = 0; j < all.size(); j++) {
                KneeStair x = Traces.busy();
                all.get(i).apply(x);
                Object alone = all.get(j).apply(Traces.busy());
                Object behind = all.get(j).apply(x);
                check.due("question " + j + " behind question " + i + ": " + behind + ", alone: " + alone, behind.equals(alone), true);
            }
        }
    }

    private static void arrives() {
        check.about("14: behind how many MINUTES (0 .. 300) he has ARRIVED (0: now); -2: not");
        int[] ahead = {0, 1, 298, 299, 300, 301};
        int[] want = {1, 2, 299, 300, -2, -2};
        for (int i = 0; i < ahead.length; i++) {
            due("arrives, the stair moving from " + ahead[i] + " on", one("if minute < " + ahead[i] + " then 0 else 1").arrives(0), want[i]);
        }
        due("there in the beginning", told("stair 1; pilgrim a 1 0 0 1 0;").arrives(0), 0);
        KneeStair x = one("if minute < 9 then 0 else 1");
        x.run(9);
        due("a minute ahead", x.arrives(0), 1);
        x.run(1);
        due("now", x.arrives(0), 0);
        x.board(0);
        due("boarded again", x.arrives(0), 1);
        due("just by the OIL there is", told("stair 3; pilgrim a 0 0 0 1 0; oil 2; moves = oiled;").arrives(0), 2);
        due("not by the OIL there is", told("stair 4; pilgrim a 0 0 0 1 0; oil 2; moves = oiled;").arrives(0), -2);
        due("just by the DOUBT there is", told("stair 9; pilgrim a 0 0 3 1 0; moves = 6 - doubt;").arrives(0), 3);
        for (int p : NO_PILGRIMS) {
            refused("arrives(" + p + ")", y -> y.arrives(p), -1);
        }
        due("of none", new KneeStair().arrives(0), -1);
    }

    private static void still() {
        check.about("15: behind how many MINUTES (0 .. 300) MOVES tells 0 for the first time (0: now); -2: not");
        int[] moving = {0, 1, 299, 300, 301};
        int[] want = {0, 1, 299, 300, -2};
        for (int i = 0; i < moving.length; i++) {
            due("moves till " + moving[i], told("moves = if minute < " + moving[i] + " then 1 else 0;").still(), want[i]);
            due("moves down till " + moving[i], told("moves = if minute < " + moving[i] + " then 0 - 99 else 0;").still(), want[i]);
        }
        due("for the first time", told("moves = minute - 5;").still(), 5);
        due("0 by a division", told("moves = 7 / (minute - 3);").still(), 3);
        due("not", told("moves = 1;").still(), -2);
        KneeStair x = told("stair 99; pilgrim a 0 2 0 5 0 kneels; moves = if minute < 1 then 0 else knees;");
        due("now", x.still(), 0);
        x.run(1);
        due("till he rises", x.still(), 4);
        x.run(3);
        due("till he rises", x.still(), 1);
        x.lowest(300);
        due("till he rises, behind another question", x.still(), 1);
        x.rise(0);
        due("he rose", x.still(), 0);
        due("of none", new KneeStair().still(), 0);
    }

    private static void highest() {
        check.about("16: the greatest STEP behind 0 to n MINUTES (0 .. 300; TOP if ARRIVED)");
        KneeStair x = told("stair 20; pilgrim a 5 0 0 1 0; pilgrim b 13 0 0 1 0; pilgrim c 14 0 0 1 0; pilgrim d 77 0 0 1 0; moves = if minute < 3 then 2 else 0 - 9;");
        int[] n = {0, 1, 2, 3, 4, 300};
        int[] a = {5, 7, 9, 11, 11, 11};
        int[] b = {13, 15, 17, 19, 19, 19};
        int[] c = {14, 16, 18, 20, 20, 20};
        for (int i = 0; i < n.length; i++) {
            due("highest(0, " + n[i] + ")", x.highest(0, n[i]), a[i]);
            due("highest(1, " + n[i] + ")", x.highest(1, n[i]), b[i]);
            due("highest(2, " + n[i] + ")", x.highest(2, n[i]), c[i]);
            due("highest(3, " + n[i] + ")", x.highest(3, n[i]), 20);
        }
        KneeStair down = told("pilgrim a 5 0 0 1 0; moves = 0 - 1;");
        due("now", down.highest(0, 300), 5);
        KneeStair late = one("if minute < 299 then 0 else 1");
        due("behind 299", late.highest(0, 299), 0);
        due("behind 300", late.highest(0, 300), 1);
        for (int wrong : NO_MINUTES_FROM_0) {
            refused("highest(0, " + wrong + ")", y -> y.highest(0, wrong), -1);
        }
        for (int p : NO_PILGRIMS) {
            refused("highest(" + p + ", 1)", y -> y.highest(p, 1), -1);
        }
        due("of none", new KneeStair().highest(0, 0), -1);
    }

    private static void first() {
        check.about("17: who ARRIVES first of all ON it (300 MINUTES), of alike ones the first; -2: none does");
        due("behind 1", one("1").first(1), 1);
        due("behind 300", one("if minute < 299 then 0 else 1").first(1), 300);
        due("behind 300, who", one("if minute < 299 then 0 else 1").first(0), 0);
        due("behind 301", one("if minute < 300 then 0 else 1").first(1), -2);
        due("behind 301, who", one("if minute < 300 then 0 else 1").first(0), -2);
        KneeStair x = told("stair 9; pilgrim a 9 0 0 1 0; pilgrim b 2 0 0 1 0; pilgrim c 5 0 0 1 0; pilgrim d 3 0 0 1 0; moves = 3;");
        due("alike by minutes, the first", x.first(0), 2);
        due("alike by minutes", x.first(1), 2);
        x.run(2);
        due("the one left", x.first(0), 1);
        due("the one left", x.first(1), 1);
        x.run(1);
        due("behind them", x.first(0), -2);
        due("all have ARRIVED", x.count(3), 0);
        due("all have ARRIVED", x.first(1), -2);
        due("of none", new KneeStair().first(0), -2);
        due("of none", new KneeStair().first(1), -2);
        due("the last of eight", told("stair 9;" + eight("0 1 0 9 0").replace("pilgrim h 0", "pilgrim h 8") + "moves = 1;").first(0), 7);
        due("none of eight", told("stair 9;" + eight("0 1 0 9 0") + "moves = 0;").first(0), -2);
        for (int what : NO_WHATS) {
            refused("first(" + what + ")", y -> y.first(what), -1);
            traces.refused("first(" + what + ") of none", Traces::idle, y -> y.first(what), -1);
        }
    }

    private static void means() {
        check.about("18: behind n MINUTES (1 .. 300; TOP if ARRIVED), below 0: lower; -10000: no such ones, one and the same");
        KneeStair late = told("stair 99; pilgrim a 5 1 0 9 0; pilgrim b 5 0 0 1 0; moves = if minute < 299 then 0 else on - 1;");
        due("n 1", late.means(0, 1, 1), 0);
        due("n 299", late.means(0, 1, 299), 0);
        due("n 300", late.means(0, 1, 300), 1);
        KneeStair x = told("stair 9; pilgrim a 5 4 0 9 0 kneels; pilgrim b 5 1 3 9 0; pilgrim c 9 4 4 9 0; moves = knees - doubt;");
        due("kneeling no more", x.means(0, 1, 1), 1 - -3);
        due("of one who stands: lower", x.means(1, 0, 1), 1 - 4);
        due("TOP if ARRIVED", x.means(1, 0, 2), 7 - 9);
        due("both ways ARRIVED", x.means(1, 0, 300), 0);
        due("of one who has ARRIVED", x.means(2, 0, 1), 0);
        due("for one who has ARRIVED", x.means(0, 2, 1), 0);
        for (int n : NO_SPANS) {
            refused("means(0, 1, " + n + ")", y -> y.means(0, 1, n), -10000);
        }
        for (int p : NO_PILGRIMS) {
            refused("means(" + p + ", 0, 1)", y -> y.means(p, 0, 1), -10000);
            refused("means(0, " + p + ", 1)", y -> y.means(0, p, 1), -10000);
        }
        for (int p = 0; p < 3; p++) {
            int some = p;
            refused("means(" + p + ", " + p + ", 1)", y -> y.means(some, some, 1), -10000);
        }
        due("of none", new KneeStair().means(0, 1, 1), -10000);
    }

    private static void oiled() {
        check.about("19: the least OIL more (0 .. 300) now, n MINUTES (1 .. 300); -2: by none");
        int[] needed = {0, 1, 2, 299, 300, 301};
        int[] want = {0, 1, 2, 299, 300, -2};
        for (int i = 0; i < needed.length; i++) {
            due(needed[i] + " needed", one("if oiled < " + needed[i] + " then 0 else 1").oiled(0, 1), want[i]);
            due(needed[i] + " and 5 needed, 5 there", told("stair 1; pilgrim a 0 0 0 1 0; oil 5; moves = if oiled < " + (needed[i] + 5) + " then 0 else 1;").oiled(0, 1), want[i]);
        }
        due("not looked at", one("1").oiled(0, 1), 0);
        due("not looked at", one("0").oiled(0, 300), -2);
        due("n 299", one("if minute < 298 then 0 else oiled").oiled(0, 299), 299);
        due("n 300", one("if minute < 299 then 0 else oiled").oiled(0, 300), 300);
        due("n 299 of 300", one("if minute < 299 then 0 else oiled").oiled(0, 299), -2);
        due("n 1 of 2", told("stair 2; pilgrim a 0 0 0 1 0; moves = if oiled < 1 then 0 else 1;").oiled(0, 1), -2);
        due("n 2 of 2", told("stair 2; pilgrim a 0 0 0 1 0; moves = if oiled < 1 then 0 else 1;").oiled(0, 2), 2);
        due("who has ARRIVED", told("stair 2; pilgrim a 2 0 0 1 0; moves = 0;").oiled(0, 1), 0);
        due("with the DOUBT there is", told("stair 1; pilgrim a 0 0 3 1 0; moves = oiled - doubt;").oiled(0, 1), 4);
        due("the least, though more is too much", one("1 - (oiled - 4) * (oiled - 4)").oiled(0, 1), 4);
        for (int n : NO_SPANS) {
            refused("oiled(0, " + n + ")", y -> y.oiled(0, n), -1);
        }
        for (int p : NO_PILGRIMS) {
            refused("oiled(" + p + ", 1)", y -> y.oiled(p, 1), -1);
        }
        due("of none", new KneeStair().oiled(0, 1), -1);
    }

    private static void doubted() {
        check.about("20: the greatest DOUBT more (0 .. 300), n MINUTES (1 .. 300); -2: by none");
        int[] borne = {0, 1, 2, 299, 300, 301};
        int[] want = {0, 1, 2, 299, 300, 300};
        for (int i = 0; i < borne.length; i++) {
            due(borne[i] + " can be borne", one("if " + borne[i] + " < doubt then 0 else 1").doubted(0, 1), want[i]);
        }
        due("none can be", told("stair 1; pilgrim a 0 0 1 1 0; moves = if 0 < doubt then 0 else 1;").doubted(0, 1), -2);
        due("just none more", told("stair 1; pilgrim a 0 0 1 1 0; moves = if 1 < doubt then 0 else 1;").doubted(0, 1), 0);
        due("not looked at", one("1").doubted(0, 1), 300);
        due("not looked at", one("0").doubted(0, 300), -2);
        due("each MINUTE", told("stair 4; pilgrim a 0 0 0 1 0; moves = 7 - doubt;").doubted(0, 2), 5);
        due("not counted as ON it", one("2 - on").doubted(0, 1), 300);
        due("n 300", one("if minute < 299 then 0 else 1").doubted(0, 300), 300);
        due("n 299 of 300", one("if minute < 299 then 0 else 1").doubted(0, 299), -2);
        due("n 300, looked at", one("if minute < 299 then 0 else 9 - doubt").doubted(0, 300), 8);
        due("n 299, looked at", one("if minute < 299 then 0 else 9 - doubt").doubted(0, 299), -2);
        due("who has ARRIVED", told("stair 2; pilgrim a 2 0 0 1 0;").doubted(0, 1), 300);
        due("with the OIL there is", told("stair 1; pilgrim a 0 0 3 1 0; oil 7; moves = oiled - doubt;").doubted(0, 1), 3);
        due("the greatest, though less is too little", one("1 - (doubt - 4) * (doubt - 4)").doubted(0, 1), 4);
        for (int n : NO_SPANS) {
            refused("doubted(0, " + n + ")", y -> y.doubted(0, n), -1);
        }
        for (int p : NO_PILGRIMS) {
            refused("doubted(" + p + ", 1)", y -> y.doubted(p, 1), -1);
        }
        due("of none", new KneeStair().doubted(0, 1), -1);
    }

    private static void bestStart() {
        check.about("21: behind how many of n MINUTES (1 .. 300; 0 .. n - 1); of alike ones the least");
        String late = "stair 99; pilgrim a 0 2 0 %s 0; moves = if minute < %s then 0 else knees;";
        due("n 1: 0", told(String.format(late, 1, 0)).bestStart(0, 1, 0), 0);
        due("n 1: the STEP", told(String.format(late, 1, 0)).bestStart(0, 1, 1), 2);
        due("n 2: n - 1", told(String.format(late, 1, 1)).bestStart(0, 2, 0), 1);
        due("n 300: n - 1", told(String.format(late, 1, 299)).bestStart(0, 300, 0), 299);
        due("n 300: the STEP", told(String.format(late, 1, 299)).bestStart(0, 300, 1), 2);
        due("n 300: behind it", told(String.format(late, 1, 300)).bestStart(0, 300, 0), 0);
        due("n 300: behind it", told(String.format(late, 1, 300)).bestStart(0, 300, 1), 0);
        due("the least that is soon enough", told(String.format(late, 99, 299)).bestStart(0, 300, 0), 201);
        due("all alike", told("stair 9; pilgrim a 3 0 0 9 0; moves = 0 - 1;").bestStart(0, 300, 0), 0);
        due("all alike, the STEP", told("stair 9; pilgrim a 3 0 0 9 0; moves = 0 - 1;").bestStart(0, 300, 1), 0);
        KneeStair down = told("stair 99; pilgrim a 50 1 0 9 0; moves = 1 - knees * 2;");
        due("he is to kneel: n - 1", down.bestStart(0, 3, 0), 2);
        due("he is to kneel: the STEP", down.bestStart(0, 3, 1), 51);
        due("he is to kneel: n 1", down.bestStart(0, 1, 1), 49);
        check.about("21: standing till then, if he may by then (else he goes on to stand)");
        KneeStair sore = behind(1, told("stair 99; pilgrim a 0 3 0 1 0 kneels; moves = knees - on;"));
        due("too SORE now: n 1", sore.bestStart(0, 1, 1), 2 - 1);
        due("too SORE now: n 2", sore.bestStart(0, 2, 0), 1);
        due("too SORE now: n 2", sore.bestStart(0, 2, 1), 1 + 2);
        KneeStair kneeling = told("stair 99; pilgrim a 0 3 0 2 0 kneels; moves = if minute < 1 then 0 else knees;");
        due("who kneels now stands", kneeling.bestStart(0, 3, 0), 1);
        due("who kneels now stands", kneeling.bestStart(0, 3, 1), 6);
        check.about("21: NONE: no such ones, he has ARRIVED");
        for (int what = 0; what < 2; what++) {
            int some = what;
            refused("of one who has ARRIVED", y -> y.bestStart(2, 1, some), -1);
            for (int n : NO_SPANS) {
                refused("bestStart(0, " + n + ", " + what + ")", y -> y.bestStart(0, n, some), -1);
            }
            for (int p : NO_PILGRIMS) {
                refused("bestStart(" + p + ", 1, " + what + ")", y -> y.bestStart(p, 1, some), -1);
            }
        }
        for (int what : NO_WHATS) {
            refused("bestStart(0, 1, " + what + ")", y -> y.bestStart(0, 1, what), -1);
        }
        due("of none", new KneeStair().bestStart(0, 1, 0), -1);
    }

    private static void meet() {
        check.about("22: behind how many MINUTES (0 .. 300) two are at one STEP for the first time; -2: not");
        String two = "stair 20; pilgrim a 0 0 0 1 0; pilgrim b 1 0 0 1 0; pilgrim c 0 0 0 1 0; pilgrim d 20 0 0 1 0; pilgrim e 99 0 0 1 0; moves = if minute < %s then 0 else 0 - 1;";
        due("now", told(String.format(two, 0)).meet(0, 2), 0);
        due("now, both having ARRIVED", told(String.format(two, 0)).meet(3, 4), 0);
        due("behind 1", told(String.format(two, 0)).meet(0, 1), 1);
        due("behind 1", told(String.format(two, 0)).meet(1, 0), 1);
        due("behind 300", told(String.format(two, 299)).meet(0, 1), 300);
        due("behind 301", told(String.format(two, 300)).meet(0, 1), -2);
        due("not", told(String.format(two, 0)).meet(0, 3), -2);
        due("at TOP", told("stair 5; pilgrim a 0 0 0 1 0; pilgrim b 3 0 0 1 0; moves = 1;").meet(0, 1), 5);
        for (int p : NO_PILGRIMS) {
            refused("meet(" + p + ", 0)", y -> y.meet(p, 0), -1);
            refused("meet(0, " + p + ")", y -> y.meet(0, p), -1);
        }
        for (int p = 0; p < 3; p++) {
            int some = p;
            refused("meet(" + p + ", " + p + ")", y -> y.meet(some, some), -1);
        }
        due("of none", new KneeStair().meet(0, 1), -1);
    }

    private static void lowest() {
        check.about("24: in n MINUTES (0 .. 300): the least STEP at which one is who is ON it then; -2: nobody; NONE: no such n");
        KneeStair late = told("stair 9; pilgrim a 9 0 0 1 0; pilgrim b 6 0 0 1 0; pilgrim c 5 0 0 1 0; moves = if minute < 299 then 0 else 0 - 1;");
        due("n 0", late.lowest(0), 5);
        due("n 299", late.lowest(299), 5);
        due("n 300", late.lowest(300), 4);
        due("the last of eight", told("stair 9;" + eight("5 1 0 9 0").replace("pilgrim h 5", "pilgrim h 4") + "moves = 0;").lowest(0), 4);
        due("eight have ARRIVED", told("stair 5;" + eight("5 1 0 9 0")).lowest(300), -2);
        due("0 is a STEP, too", told("pilgrim a 0 0 0 1 0;").lowest(0), 0);
        KneeStair up = told("stair 9; pilgrim a 8 0 0 1 0; moves = 1;");
        due("till he has ARRIVED", up.lowest(300), 8);
        up.run(1);
        due("nobody", up.lowest(0), -2);
        due("nobody", up.lowest(300), -2);
        due("of none", new KneeStair().lowest(0), -2);
        due("of none", new KneeStair().lowest(300), -2);
        for (int n : NO_MINUTES_FROM_0) {
            refused("lowest(" + n + ")", y -> y.lowest(n), -1);
            traces.refused("lowest(" + n + ") of none", Traces::idle, y -> y.lowest(n), -1);
        }
    }

    private static String eight(String numbers) {
        StringBuilder text = new StringBuilder();
        for (int p = 0; p < 8; p++) {
            text.append("pilgrim ").append((char) ('a' + p)).append(' ').append(numbers).append(';');
        }
        return text.toString();
    }

    private static void bestTwo() {
        check.about("25: for n MINUTES (1 .. 300); of alike ones the first by the lesser number, then the other one");
        KneeStair late = told("stair 99;" + eight("0 1 0 99 0").replace("pilgrim g 0 1", "pilgrim g 0 2").replace("pilgrim h 0 1", "pilgrim h 0 2")
                + "moves = knees;");
        due("the last two", late.bestTwo(1, 1), 67);
        due("all STEPS", late.bestTwo(1, 0), 32);
        due("n 300", late.bestTwo(300, 0), 99 * 8);
        due("n 300, alike", late.bestTwo(300, 1), 1);
        KneeStair end = told("stair 99; pilgrim a 0 1 0 9 0; pilgrim b 0 1 0 9 0; moves = if minute < 299 then 0 else 1;");
        due("n 299", end.bestTwo(299, 0), 0);
        due("n 300", end.bestTwo(300, 0), 2);
        due("0 STEPS is no -2", end.bestTwo(1, 0), 0);
        due("0 and 1", end.bestTwo(1, 1), 1);
        due("all lower", told("stair 9; pilgrim a 3 1 0 9 0; pilgrim b 3 1 0 9 0; moves = 0 - 9;").bestTwo(1, 0), 0);
        KneeStair third = told("stair 99; pilgrim a 0 1 0 9 0; pilgrim b 0 2 0 9 0; pilgrim c 0 2 0 9 0; pilgrim d 0 1 0 9 0; moves = knees - 2;");
        due("the greatest, not the first", third.bestTwo(1, 1), 12);
        third.kneel(0);
        third.kneel(3);
        due("all others stand", third.bestTwo(1, 1), 12);
        due("all others stand", third.bestTwo(1, 0), 8);
        check.about("25: -2: there are no two (ON it, less SORE than they may get)");
        String[] fewer = {"", "pilgrim a 0 1 0 9 0;", "pilgrim a 0 1 0 9 0; pilgrim b 20 1 0 9 0;", "pilgrim a 20 1 0 9 0; pilgrim b 99 1 0 9 0;"};
        for (String text : fewer) {
            for (int what = 0; what < 2; what++) {
                due("bestTwo of " + text, told(text).bestTwo(1, what), -2);
            }
        }
        KneeStair sore = behind(1, told("pilgrim a 0 1 0 9 0; pilgrim b 0 1 0 1 0 kneels; moves = 0;"));
        due("b is too SORE", sore.bestTwo(1, 1), -2);
        due("b is less SORE", behind(1, sore).bestTwo(1, 1), 1);
        check.about("25: NONE: no such ones");
        for (int n : NO_SPANS) {
            for (int what = 0; what < 2; what++) {
                int some = what;
                refused("bestTwo(" + n + ", " + what + ")", y -> y.bestTwo(n, some), -1);
                traces.refused("bestTwo(" + n + ", " + what + ") of none", Traces::idle, y -> y.bestTwo(n, some), -1);
            }
        }
        for (int what : NO_WHATS) {
            refused("bestTwo(1, " + what + ")", y -> y.bestTwo(1, what), -1);
        }
    }

    private static void exchange() {
        check.about("26: in n MINUTES (1 .. 300), at a greater STEP than without; of alike ones the first by who rises, then who kneels");
        KneeStair late = told("stair 99; pilgrim a 0 1 0 99 0 kneels; pilgrim b 0 3 0 99 0; moves = if minute < 98 then 0 else knees;");
        due("n 98", late.exchange(0, 98, 0), -2);
        due("n 99", late.exchange(0, 99, 0), 1);
        due("n 99, his STEP", late.exchange(0, 99, 1), 3);
        // c arrives in the first minute only if b kneels; then a is at 0 till minute 299, in which it tells how many are left
        KneeStair last = told("stair 99; pilgrim a 0 1 0 9 0 kneels; pilgrim b 0 3 0 9 0; pilgrim c 96 0 0 1 0;"
                + " moves = if minute < 1 then knees else if minute < 299 then 0 - 9 else 3 - on;");
        due("n 299", last.exchange(0, 299, 0), -2);
        due("n 300", last.exchange(0, 300, 0), 1);
        due("n 300, his STEP", last.exchange(0, 300, 1), 1);
        KneeStair near = told("stair 99; pilgrim a 9 2 0 1 0 kneels; pilgrim b 0 1 0 1 0; moves = 0 - knees;");
        due("n 1", near.exchange(0, 1, 1), 8);
        due("n 300", near.exchange(0, 300, 1), 8);
        KneeStair many = told("stair 99; pilgrim a 50 2 0 9 0 kneels; pilgrim b 50 2 0 9 0; pilgrim c 50 2 0 9 0 kneels; pilgrim d 50 3 0 9 0; pilgrim e 50 3 0 9 0; moves = knees - 4;");
        due("alike: the first who rises, the first who kneels", many.exchange(4, 1, 0), 3);
        due("his STEP", many.exchange(4, 1, 1), 51);
        many.rise(0);
        many.kneel(3);
        due("as great is no greater", many.exchange(1, 1, 1), 52);
        due("who rises is the third, who kneels the fifth", many.exchange(1, 1, 0), 24);
        KneeStair back = told("stair 99; pilgrim a 5 4 0 9 0; pilgrim b 5 2 0 9 0 kneels; moves = knees;");
        due("who kneels is the first", back.exchange(1, 1, 0), 10);
        KneeStair full = told("stair 99;" + eight("5 1 0 9 0").replace("pilgrim h 5 1", "pilgrim h 5 4") + "moves = knees;");
        full.kneel(6);
        due("the last of eight", full.exchange(0, 1, 0), 67);
        full.kneel(7);
        full.rise(6);
        due("none of eight", full.exchange(0, 1, 0), -2);
        check.about("26: -2: by none");
        KneeStair equal = told("stair 99; pilgrim a 5 2 0 9 0 kneels; pilgrim b 5 2 0 9 0; moves = knees;");
        due("as great", equal.exchange(0, 1, 0), -2);
        due("as great", equal.exchange(0, 1, 1), -2);
        equal.rise(0);
        due("nobody kneels", equal.exchange(0, 1, 0), -2);
        equal.kneel(0);
        equal.kneel(1);
        due("nobody stands", equal.exchange(0, 1, 0), -2);
        KneeStair sore = told("stair 99; pilgrim a 5 1 0 9 0 kneels; pilgrim b 5 4 0 1 0 kneels; moves = 0 - minute + knees;");
        sore.run(1);
        due("b is too SORE", sore.exchange(0, 1, 0), -2);
        KneeStair gone = told("stair 9; pilgrim a 5 1 0 9 0 kneels; pilgrim b 9 4 0 9 0; moves = knees;");
        due("b has ARRIVED", gone.exchange(0, 1, 0), -2);
        due("for b, who has ARRIVED", gone.exchange(1, 1, 1), -2);
        check.about("26: NONE: no such ones");
        for (int what = 0; what < 2; what++) {
            int some = what;
            for (int n : NO_SPANS) {
                refused("exchange(0, " + n + ", " + what + ")", y -> y.exchange(0, n, some), -1);
            }
            for (int p : NO_PILGRIMS) {
                refused("exchange(" + p + ", 1, " + what + ")", y -> y.exchange(p, 1, some), -1);
            }
        }
        for (int what : NO_WHATS) {
            refused("exchange(0, 1, " + what + ")", y -> y.exchange(0, 1, what), -1);
        }
        due("of none", new KneeStair().exchange(0, 1, 0), -1);
    }

    private static void kneelers() {
        check.about("30: k 1 .. 8, n 1 .. 300; -2: it can't be");
        KneeStair all = told("stair 8;" + eight("0 1 0 9 7") + "moves = knees;");
        for (int k = 1; k <= 8; k++) {
            due("all eight of them, k " + k, all.kneelers(k, 1, 1), 255);
            due("all eight of them, k " + k, all.kneelers(k, 1, 0), 56);
        }
        due("k 8, one of them", all.kneelers(8, 8, 1), 1);
        due("k 8, nobody kneels", told("stair 1;" + eight("0 1 0 9 7") + "moves = 1;").kneelers(8, 1, 1), 0);
        due("k 8, nobody kneels", told("stair 1;" + eight("0 1 0 9 7") + "moves = 1;").kneelers(8, 1, 0), 0);
        due("k 8 of 7", told("stair 1;" + eight("0 1 0 9 7").replace("pilgrim h 0", "pilgrim h 1") + "moves = 1;").kneelers(8, 300, 0), -2);
        due("k 7 of 7", told("stair 1;" + eight("0 1 0 9 7").replace("pilgrim h 0", "pilgrim h 1") + "moves = 1;").kneelers(7, 300, 0), 0);
        due("n 300", one("if minute < 299 then 0 else 1").kneelers(1, 300, 0), 0);
        due("n 299", one("if minute < 299 then 0 else 1").kneelers(1, 299, 0), -2);
        due("n 300, behind it", one("if minute < 300 then 0 else 1").kneelers(1, 300, 1), -2);
        due("of none", new KneeStair().kneelers(1, 1, 0), -2);
        due("of none", new KneeStair().kneelers(8, 300, 1), -2);
        check.about("30: the least sum of WAGES; of alike ones the fewest KNEES, then the least bits");
        KneeStair x = told("stair 9; pilgrim a 8 3 0 9 5; pilgrim b 8 2 0 9 4; pilgrim c 8 1 0 9 4; pilgrim d 8 1 0 9 4 kneels; moves = knees;");
        due("the least wages", x.kneelers(4, 1, 0), 4);
        due("the fewest knees, the least bits", x.kneelers(4, 1, 1), 4);
        KneeStair free = told("stair 9; pilgrim a 8 0 0 9 0; pilgrim b 8 0 0 9 0; pilgrim c 8 1 0 9 0; moves = knees;");
        due("wages 0", free.kneelers(3, 1, 0), 0);
        due("wages 0, knees 1", free.kneelers(3, 1, 1), 4);
        check.about("30: of those ON it who are less SORE than they may get");
        KneeStair sore = behind(1, told("stair 9; pilgrim a 7 1 0 1 0 kneels; pilgrim b 7 1 0 9 5; pilgrim c 9 4 0 9 0; moves = knees;"));
        due("a is too SORE, c has ARRIVED", sore.kneelers(2, 1, 1), 2);
        due("who rises because he is SORE stays so", told("stair 3; pilgrim a 0 1 0 2 0; moves = knees;").kneelers(1, 300, 0), -2);
        due("he gets there just so", told("stair 3; pilgrim a 0 1 0 3 0; moves = knees;").kneelers(1, 300, 1), 1);
        check.about("30: NONE: no such ones");
        for (int what = 0; what < 2; what++) {
            int some = what;
            for (int k : new int[] {LEAST, -1, 0, 9, 10, GREATEST}) {
                refused("kneelers(" + k + ", 1, " + what + ")", y -> y.kneelers(k, 1, some), -1);
                traces.refused("kneelers(" + k + ", 1, " + what + ") of none", Traces::idle, y -> y.kneelers(k, 1, some), -1);
            }
            for (int n : NO_SPANS) {
                refused("kneelers(1, " + n + ", " + what + ")", y -> y.kneelers(1, n, some), -1);
                refused("kneelers(8, " + n + ", " + what + ")", y -> y.kneelers(8, n, some), -1);
            }
        }
        for (int what : NO_WHATS) {
            refused("kneelers(1, 1, " + what + ")", y -> y.kneelers(1, 1, what), -1);
        }
    }

    private static void rests() {
        check.about("31: how many (i NONE), else the i-th (bits), n MINUTES (1 .. 100); NONE: no such ones, not so many");
        KneeStair any = told("stair 9;" + eight("0 1 0 9 0") + "moves = 0; has = 7;");
        due("all sets", any.rests(1, -1), 256);
        due("all sets", any.rests(100, -1), 256);
        for (int i = 0; i < 256; i++) {
            due("the " + i + "th", any.rests(1, i), i);
        }
        due("not so many", any.rests(1, 256), -1);
        due("not so many", any.rests(1, GREATEST), -1);
        due("of none", new KneeStair().rests(1, -1), 1);
        due("of none", new KneeStair().rests(100, 0), 0);
        due("of none", new KneeStair().rests(100, 1), -1);
        String late = "stair 99; pilgrim a 0 1 0 99 0; pilgrim b 0 1 0 99 0 kneels; moves = if minute < 98 then 0 else knees;";
        due("n 98", told(late).rests(98, -1), 4);
        due("n 99", told(late).rests(99, -1), 1);
        due("n 99", told(late).rests(99, 0), 3);
        KneeStair last = told("stair 99; pilgrim a 0 1 0 99 0; moves = 0; has = if minute < 100 then 0 else 0 - sore;");
        due("n 99, both alike", last.rests(99, -1), 2);
        due("n 100, still sore", last.rests(100, -1), 1);
        due("n 100, still sore", last.rests(100, 0), 0);
        check.about("31: would have more: as much is no more");
        KneeStair down = told("stair 99; pilgrim a 5 1 0 9 0; pilgrim b 5 1 0 9 0; moves = 0 - knees;");
        due("nobody would rise", down.rests(1, -1), 1);
        due("nobody kneels", down.rests(1, 0), 0);
        due("all are at 0", told("stair 99; pilgrim a 0 1 0 9 0; pilgrim b 0 1 0 9 0; moves = 0 - knees;").rests(1, -1), 4);
        check.about("31: HAS of who ARRIVED: STEP is TOP");
        due("both have TOP", told("stair 5; pilgrim a 4 1 0 9 0; moves = 1 + knees;").rests(1, -1), 2);
        check.about("31: of those ON it who are less SORE than they may get");
        KneeStair sore = behind(1, told("stair 9; pilgrim a 5 1 0 1 0 kneels; pilgrim b 5 1 0 9 5; pilgrim c 9 4 0 9 0; moves = knees;"));
        due("only b", sore.rests(1, -1), 1);
        due("only b", sore.rests(1, 0), 2);
        check.about("31: no such ones");
        for (int n : new int[] {LEAST, -1, 0, 101, 300, GREATEST}) {
            for (int i = -1; i < 2; i++) {
                int some = i;
                refused("rests(" + n + ", " + i + ")", y -> y.rests(n, some), -1);
                traces.refused("rests(" + n + ", " + i + ") of none", Traces::idle, y -> y.rests(n, some), -1);
            }
        }
        for (int i : new int[] {LEAST, -100, -3, -2}) {
            refused("rests(1, " + i + ")", y -> y.rests(1, i), -1);
        }
    }
}

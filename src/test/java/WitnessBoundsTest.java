/** Part IV of the terms and promises 32 to 35, each sentence that names a bound. */
public final class WitnessBoundsTest {
    private static final Check check = new Check();
    private static final Traces traces = new Traces(check);
    private static final int LEAST = Integer.MIN_VALUE;
    private static final int GREATEST = Integer.MAX_VALUE;

    private static void due(String call, long got, long want) {
        check.due(call, got, want);
    }

    public static void main(String[] args) {
        tell();
        tellFull();
        forget();
        off();
        offByText();
        secretAsked();
        secretMinutes();
        secretKnown();
        secretRisers();
        nothingHappens();
        check.end();
    }

    private static void tell() {
        check.about("32: NONE, and nothing happens: no such ones; STEP 0 .. 99, MINUTE 0 .. 99");
        for (int wrong : new int[] {LEAST, -2, -1, 100, 101, GREATEST}) {
            traces.refused("tell(0, " + wrong + ", 0)", Traces::busy, x -> x.tell(0, wrong, 0), -1);
            traces.refused("tell(0, 0, " + wrong + ")", Traces::busy, x -> x.tell(0, 0, wrong), -1);
        }
        for (int p : new int[] {LEAST, -1, 3, 7, 8, GREATEST}) {
            traces.refused("tell(" + p + ", 0, 0)", Traces::busy, x -> x.tell(p, 0, 0), -1);
        }
        traces.refused("tell(0, 0, 0) of none", Traces::idle, x -> x.tell(0, 0, 0), -1);
        int[] edges = {0, 99};
        for (int minute : edges) {
            for (int step : edges) {
                KneeStair x = Traces.busy();
                due("tell(2, " + minute + ", " + step + ")", x.tell(2, minute, step), 2);
                due("TOLD", x.count(9), 3);
                due("things done", x.count(8), 5);
            }
        }
        due("of one who has ARRIVED", Traces.busy().tell(2, 50, 50), 2);
    }

    private static KneeStair fullOf(int many) {
        KneeStair x = Check.told("stair 50; pilgrim a 7 1 0 9 0 kneels; moves = 0;");
        for (int i = 0; i < many; i++) {
            x.tell(0, i % 100, 7);
        }
        return x;
    }

    private static void tellFull() {
        check.about("TOLD: 20 at most, numbered from 0 on");
        KneeStair x = fullOf(0);
        for (int i = 0; i < 20; i++) {
            due("tell " + i, x.tell(0, i, 7), i);
            due("TOLD", x.count(9), i + 1);
        }
        traces.refused("the 21st", () -> fullOf(20), y -> y.tell(0, 0, 0), -1);
        traces.refused("the 21st, wrong too", () -> fullOf(20), y -> y.tell(9, 0, 0), -1);
        due("off(20)", fullOf(20).off(20), -2);
        due("off(21)", fullOf(20).off(21), -1);
        due("the 20th", fullOf(19).tell(0, 99, 99), 19);
        KneeStair last = fullOf(19);
        last.tell(0, 99, 8);
        due("the 20th is not so", last.off(20), 19);
        due("not KNOWN", last.off(19), -2);
        due("forget all", last.forget(), 20);
        due("numbered from 0 on again", last.tell(0, 0, 7), 0);
    }

    private static void forget() {
        check.about("33: how many there were");
        due("of none", new KneeStair().forget(), 0);
        due("none TOLD", fullOf(0).forget(), 0);
        due("one", fullOf(1).forget(), 1);
        due("twenty", fullOf(20).forget(), 20);
        KneeStair x = fullOf(5);
        x.forget();
        due("all forgotten", x.count(9), 0);
        due("again", x.forget(), 0);
        due("off(0)", x.off(0), -2);
        due("off(1)", x.off(1), -1);
        traces.alike("told and forgotten", x, fullOf(0));
    }

    private static void off() {
        check.about("35: -2: all are so; NONE: no such k");
        for (int k : new int[] {LEAST, -2, -1, 3, 20, 21, GREATEST}) {
            traces.refused("off(" + k + ")", Traces::busy, x -> x.off(k), -1);
        }
        due("off(0)", Traces.busy().off(0), -2);
        due("off(1)", Traces.busy().off(1), -2);
        due("off(2)", Traces.busy().off(2), 1);
        due("of none", new KneeStair().off(0), -2);
        due("of none", new KneeStair().off(1), -1);
        due("of none", new KneeStair().off(-1), -1);
        check.about("35: the first of TOLD ones, not the first minute");
        KneeStair x = Check.told("stair 99; pilgrim a 0 1 0 9 0; moves = 1;");
        x.tell(0, 5, 6);
        x.tell(0, 4, 9);
        x.tell(0, 3, 9);
        due("off(3)", x.off(3), 1);
        due("off(1)", x.off(1), -2);
    }

    private static void offByText() {
        check.about("TOLD: behind a MINUTE (0 .. 99: behind the first one, 0)");
        String text = "stair 99; pilgrim a 0 1 0 9 0; pilgrim b 99 1 0 9 0; pilgrim c 3 1 0 9 0; moves = if minute < 99 then 0 else 1;";
        int[][] so = {{0, 0, 0}, {0, 98, 0}, {0, 99, 1}, {1, 0, 99}, {1, 99, 99}, {2, 98, 3}, {2, 99, 4}};
        for (int[] row : so) {
            KneeStair x = Check.told(text);
            x.tell(row[0], row[1], row[2]);
            due("so: " + java.util.Arrays.toString(row), x.off(1), -2);
            KneeStair y = Check.told(text);
            y.tell(row[0], row[1], row[2] == 99 ? 98 : row[2] + 1);
            due("not so: " + java.util.Arrays.toString(row), y.off(1), 0);
        }
        KneeStair first = Check.told("stair 99; pilgrim a 0 1 0 9 0; moves = 2;");
        first.tell(0, 0, 2);
        due("behind the first one, 0", first.off(1), -2);
        check.about("35: by the text, nothing by hand");
        KneeStair x = Check.told("stair 99; pilgrim a 0 1 0 9 0 kneels; pilgrim b 0 1 0 9 0; oil 3; moves = knees + oiled;");
        x.rise(0);
        x.kneel(1);
        x.oil(50);
        x.run(7);
        x.hold(0);
        x.tell(0, 0, 4);
        x.tell(0, 1, 7);
        due("off(2)", x.off(2), -2);
    }

    private static KneeStair standing(String pilgrims) {
        return Check.told("stair 99;" + pilgrims + "moves = 0;");
    }

    private static void secretAsked() {
        check.about("34: how many ways (i NONE), else the i-th; NONE: no such ones, not so many");
        for (int k : new int[] {LEAST, -2, -1, 3, 20, 21, GREATEST}) {
            for (int i = -1; i < 2; i++) {
                int some = i;
                traces.refused("secret(" + k + ", " + i + ")", Traces::busy, x -> x.secret(k, some), -1);
            }
        }
        for (int i : new int[] {LEAST, -3, -2, 2000, GREATEST}) {
            for (int k = 0; k < 3; k++) {
                int some = k;
                traces.refused("secret(" + k + ", " + i + ")", Traces::busy, x -> x.secret(some, i), -1);
            }
        }
        due("nothing KNOWN", Traces.busy().secret(0, -1), 0);
        due("nothing KNOWN", Traces.busy().secret(0, 0), -1);
        due("of none", new KneeStair().secret(0, -1), 0);
        due("of none", new KneeStair().secret(0, 0), -1);
        due("of none", new KneeStair().secret(1, -1), -1);
    }

    private static void secretMinutes() {
        check.about("34: a MINUTE (0 .. 99, no more than the last one KNOWN), by PILGRIMS, then MINUTES");
        for (int minute : new int[] {0, 1, 50, 98, 99}) {
            KneeStair x = standing("pilgrim a 4 1 0 99 0 kneels; pilgrim b 5 1 0 9 0; pilgrim c 6 1 0 99 0 kneels;");
            x.tell(1, minute, 5);
            due("ways", x.secret(1, -1), 2 * (minute + 1));
            due("the first", x.secret(1, 0), 0);
            due("the last of a", x.secret(1, minute), minute);
            due("the first of c", x.secret(1, minute + 1), 200);
            due("the last of c", x.secret(1, 2 * minute + 1), 200 + minute);
            due("not so many", x.secret(1, 2 * minute + 2), -1);
        }
        KneeStair eight = standing("pilgrim a 4 1 0 9 0; pilgrim b 4 1 0 9 0; pilgrim c 4 1 0 9 0; pilgrim d 4 1 0 9 0; pilgrim e 4 1 0 9 0;"
                + "pilgrim f 4 1 0 9 0; pilgrim g 4 1 0 9 0; pilgrim h 4 1 0 99 0 kneels;");
        eight.tell(0, 99, 4);
        due("the last of all", eight.secret(1, 99), 799);
        due("not so many", eight.secret(1, 100), -1);
        check.about("34: ahead of which he rose");
        KneeStair x = Check.told("stair 99; pilgrim a 0 2 0 99 0 kneels; pilgrim b 0 1 0 9 0; moves = if minute < 3 then knees else 0;");
        int[] steps = {0, 2, 4};
        for (int minute = 0; minute < 3; minute++) {
            x.forget();
            x.tell(1, 9, steps[minute]);
            due("ways", x.secret(1, -1), 1);
            due("ahead of " + minute, x.secret(1, 0), minute);
        }
        x.forget();
        x.tell(1, 9, 6);
        due("ahead of 3 to 9", x.secret(1, -1), 7);
        due("ahead of 3", x.secret(1, 0), 3);
        due("ahead of 9", x.secret(1, 6), 9);
    }

    private static void secretKnown() {
        check.about("34: KNOWN by k: the first k");
        KneeStair x = standing("pilgrim a 4 1 0 99 0 kneels;");
        x.tell(0, 5, 4);
        x.tell(0, 3, 4);
        x.tell(0, 8, 4);
        x.tell(0, 0, 5);
        int[] ways = {0, 6, 6, 9, 0};
        for (int k = 0; k < ways.length; k++) {
            due("ways by " + k, x.secret(k, -1), ways[k]);
        }
        due("one more than is TOLD", x.secret(5, -1), -1);
        KneeStair full = fullOf(20);
        due("twenty", full.secret(20, -1), 20);
        due("nineteen", full.secret(19, -1), 19);
        due("twenty-one", full.secret(21, -1), -1);
    }

    private static void secretRisers() {
        check.about("34: a PILGRIM who kneels in the beginning, by the text");
        KneeStair nobody = standing("pilgrim a 4 1 0 9 0;");
        nobody.tell(0, 9, 4);
        nobody.kneel(0);
        due("nobody knelt", nobody.secret(1, -1), 0);
        KneeStair there = standing("pilgrim a 99 1 0 9 0 kneels; pilgrim b 98 1 0 9 0 kneels;");
        there.tell(0, 2, 99);
        due("who was there already did not", there.secret(1, -1), 3);
        due("the other one did", there.secret(1, 0), 100);
        KneeStair risen = standing("pilgrim a 4 1 0 9 0 kneels;");
        risen.tell(0, 2, 4);
        risen.rise(0);
        risen.run(30);
        due("nothing by hand", risen.secret(1, -1), 3);
    }

    private static void nothingHappens() {
        check.about("34, 35: nothing happens");
        for (int k = 0; k < 3; k++) {
            int some = k;
            traces.nothingHappens("off(" + k + ")", Traces::busy, x -> x.off(some));
            traces.nothingHappens("secret(" + k + ", -1)", Traces::busy, x -> x.secret(some, -1));
            traces.nothingHappens("secret(" + k + ", 0)", Traces::busy, x -> x.secret(some, 0));
        }
    }
}

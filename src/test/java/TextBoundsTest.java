/** Part I of the terms and promises 1 to 5, each sentence that names a bound. */
public final class TextBoundsTest {
    private static final Check check = new Check();
    private static final Traces traces = new Traces(check);
    private static final String[] WORDS = {"stair", "pilgrim", "kneels", "moves", "has", "oil", "if", "then", "else",
        "knees", "doubt", "oiled", "minute", "on", "step", "sore", "borne"};

    private static void due(String call, long got, long want) {
        check.due(call, got, want);
    }

    private static void fault(int number, String marked) {
        check.dueFault(number, marked);
    }

    public static void main(String[] args) {
        newObject();
        fedBytes();
        fedFull();
        goneBack();
        fullText();
        blanksAndBytes();
        names();
        wordsInQuotes();
        ints();
        longestTokens();
        emptyAndUnfinished();
        top();
        pilgrims();
        numbersOfPilgrims();
        lawsAndOilTold();
        tokens401();
        pilgrim9();
        if5();
        open7();
        faultsByPlace();
        twice();
        wrong();
        faultChangesNothing();
        textInPlace();
        placeOfLatest();
        atTop();
        check.end();
    }

    private static void newObject() {
        check.about("1: nothing is told");
        KneeStair x = new KneeStair();
        int[] want = {0, 20, 0, 0, 0, 0, 0, 0, 0, 0, 0};
        for (int what = 0; what < want.length; what++) {
            due("count(" + what + ")", x.count(what), want[what]);
        }
        due("place", x.place(), -1);
        due("moves", x.moves(), 0);
        KneeStair y = new KneeStair();
        due("an empty text", y.read(), 0);
        traces.alike("an empty text", y, new KneeStair());
    }

    private static void fedBytes() {
        check.about("2: twenty bytes, the highest of a first");
        KneeStair x = new KneeStair();
        // each int has a byte above 127 or below, in each of its places; all but blanks are no TOKEN
        int[][] words = {{0x20202080, 0, 0, 0, 0}, {0x20202020, 0x20208020, 0, 0, 0}, {0x20202020, 0x20202020, 0x20ff2020, 0, 0},
            {0x20202020, 0x20202020, 0x20202020, 0x80202020, 0}, {0x20202020, 0x20202020, 0x20202020, 0x20202020, 0x20202041}};
        int[] places = {3, 6, 9, 12, 19};
        for (int i = 0; i < words.length; i++) {
            int[] w = words[i];
            due("feed", x.feed(w[0], w[1], w[2], w[3], w[4]), 20);
            due("read", x.read(), 1);
            due("place", x.place(), places[i]);
        }
        // "oil 1;" in two feeds, cut within a TOKEN
        x.feed(0x20202020, 0x20202020, 0x20202020, 0x20202020, 0x2020206f);
        due("feed", x.feed(0x696c2034, 0x323b2020, 0x20202020, 0x20202020, 0x20202020), 40);
        due("read", x.read(), 0);
        due("oil", x.count(5), 42);
    }

    private static KneeStair fed(int times) {
        KneeStair x = new KneeStair();
        for (int i = 0; i < times; i++) {
            x.feed(0x20202020, 0x20202020, 0x20202020, 0x20202020, 0x20202020);
        }
        return x;
    }

    private static void fedFull() {
        check.about("2: NONE, and nothing comes, if it would have more than 2,000");
        due("the last that is allowed", fed(99).feed(0, 0, 0, 0, 0), 2000);
        traces.refused("feed on 2000", () -> fed(100), x -> x.feed(0x41414141, 1, 2, 3, 4), -1);
        for (int gone = 1; gone < 20; gone++) {
            int some = gone;
            traces.refused("feed on " + (2000 - gone), () -> {
                KneeStair x = fed(100);
                x.back(some);
                return x;
            }, x -> x.feed(0x41414141, 1, 2, 3, 4), -1);
        }
        KneeStair x = fed(100);
        x.back(20);
        due("feed on 1980", x.feed(0x20202020, 0x20202020, 0x20202020, 0x20202020, 0x20202041), 2000);
        due("count(7)", x.count(7), 2000);
        due("read", x.read(), 1);
        due("place", x.place(), 1999);
        due("the tape is empty then", x.feed(0, 0, 0, 0, 0), 20);
    }

    private static void goneBack() {
        check.about("3: NONE, and nothing goes, if it has not so many, or n is below 0");
        int[] wrongs = {-1, -20, Integer.MIN_VALUE, 21, 22, 2001, Integer.MAX_VALUE};
        for (int n : wrongs) {
            traces.refused("back(" + n + ") of 20", Traces::busy, x -> x.back(n), -1);
        }
        traces.refused("back(1) of none", Traces::idle, x -> x.back(1), -1);
        traces.refused("back(0) of none", Traces::idle, x -> x.back(0), 0);
        traces.refused("back(0) of 20", Traces::busy, x -> x.back(0), 20);
        traces.refused("back(2001) of 2000", () -> fed(100), x -> x.back(2001), -1);
        due("back(2000) of 2000", fed(100).back(2000), 0);
        due("back(20) of 20", Traces.busy().back(20), 0);
        due("back(1) of 20", Traces.busy().back(1), 19);
        KneeStair x = new KneeStair();
        Check.feed(x, Check.bytes("oil 12345678;"));
        due("the last ones go", x.back(7), 6);
        Check.feed(x, Check.bytes(";"));
        due("read", x.read(), 0);
        due("oil", x.count(5), 12);
    }

    private static void fullText() {
        check.about("a TEXT has 2,000 bytes at most");
        String blanks = " ".repeat(1993);
        KneeStair x = Check.told(blanks + "oil 77;");
        due("oil, told by the last bytes", x.count(5), 77);
        fault(1, blanks + "oil 777");
        fault(1, blanks + "oil 7;@;");
        fault(5, " ".repeat(1992) + "oil @777;");
    }

    /** What stands between 'stair' and '5;', byte by byte. */
    private static void blanksAndBytes() {
        check.about("blanks (9, 10, 13, 32); all else is no TOKEN");
        for (int b = 0; b < 256; b++) {
            char c = (char) b;
            boolean isBlank = b == 9 || b == 10 || b == 13 || b == 32;
            boolean isDigit = c >= '0' && c <= '9';
            boolean isLetter = c >= 'a' && c <= 'z';
            due("byte " + b + " alone", Check.fault("" + c), isBlank ? -1 : 10000);
            due("byte " + b + " behind stair", Check.fault("stair" + c + "5;"), isBlank || isDigit ? -1 : isLetter ? 10000 : 10005);
            due("byte " + b + " behind a name", Check.fault("pilgrim a" + c + "0 0 0 1 0;"),
                    isBlank || isDigit || isLetter ? -1 : 10009);
            due("byte " + b + " within an int", Check.fault("oil 0" + c + "7;"), isDigit ? -1 : isBlank || c == ';' ? 10006 : 10005);
            due("byte " + b + " behind ;", Check.fault("oil 7;" + c), isBlank ? -1 : 10006);
        }
    }

    private static String pilgrim(String name) {
        return "pilgrim " + name + " 0 0 0 1 0;";
    }

    private static void names() {
        check.about("NAMES (letters a .. z, 8 at most)");
        fault(0, pilgrim("a") + pilgrim("z") + pilgrim("azazazaz") + pilgrim("zzzzzzzz") + pilgrim("aaaaaaaa"));
        fault(1, "pilgrim @aaaaaaaaa 0 0 0 1 0;");
        fault(1, "pilgrim @abcdefghijklmnopqrstuvwxyz 0 0 0 1 0;");
        fault(1, "pilgrim @A 0 0 0 1 0;");
        fault(1, "pilgrim @{ 0 0 0 1 0;");
        fault(1, "pilgrim @` 0 0 0 1 0;");
        fault(1, "pilgrim a@B 0 0 0 1 0;");
        fault(1, "pilgrim a@_ 0 0 0 1 0;");
        fault(1, "pilgrim a1 0 0 0 1 @0;");
        fault(1, "pilgrim @0 0 0 1 0;");
    }

    private static void wordsInQuotes() {
        check.about("none of the words in quotes is a NAME");
        for (String word : WORDS) {
            fault(1, "pilgrim @" + word + " 0 0 0 1 0;");
            fault(0, pilgrim(word + "q") + pilgrim("q" + word) + pilgrim(word.substring(0, word.length() - 1)) + pilgrim(word.substring(1) + "x"));
        }
        check.about("a NAME is none of the words in quotes");
        fault(1, "@stairq 1;");
        fault(1, "oil 1;@pilgri a 0 0 0 1 0;");
        fault(1, "pilgrim a 0 0 0 1 0 @kneel;");
        fault(1, "pilgrim a 0 0 0 1 0 @kneelsq;");
        fault(1, "has = @i 1 < 2 then 3 else 4;");
        fault(1, "has = if 1 < 2 @the 3 else 4;");
        fault(1, "has = if 1 < 2 then 3 @els 4;");
        fault(1, "has = @ste;");
        fault(1, "has = @stepstep;");
    }

    private static int has(String law) {
        return Check.told("pilgrim a 0 0 0 1 0; has = " + law + ";").pilgrim(0, 5);
    }

    private static void ints() {
        check.about("INTS (1 to 4 digits)");
        due("0", has("0"), 0);
        due("9", has("9"), 9);
        due("0009", has("0009"), 9);
        due("9999", has("9999"), 9999);
        due("9999 in parts", has("9999 / 1000 * 1000 + 9999 / 100"), 9099);
        fault(0, "stair 0001; oil 0000; oil 0099;");
        fault(1, "has = @10000;");
        fault(1, "has = @00000;");
        fault(1, "has = 1 + @" + "1".repeat(1000) + ";");
        fault(1, "stair @00001;");
        fault(1, "has = 9999-@;");
        fault(1, "oil @-1;");
        fault(1, "oil @+1;");
    }

    private static void longestTokens() {
        check.about("TOKENS, the longest that can be, with blanks between or not");
        fault(0, "stair20;pilgrim a 1 2 3 4 5kneels;moves=if1<2then3else4;has=(1+2)*3-4/5;oil6;");
        fault(0, "\t\n\r stair\t20\n;\rpilgrim  \t a\n1\r2\t3 4 5\nkneels\r;\toil\n6 ; \t\n\r");
        fault(1, "@oiloil 1;");
        fault(1, "has = @stepsore;");
        fault(1, "has = step @sore;");
        fault(1, "has = step@1;");
        fault(1, "has = 1@step;");
        fault(1, "oil 1 @2;");
        fault(5, "oil @123;");
        fault(1, "has = if 1 < @< 2 then 3 else 4;");
        fault(1, "has = 1 +@+ 2;");
        for (char c : ",.:>!?%&|^~#$'\"[]{}\\_".toCharArray()) {
            fault(1, "has = 1 @" + c + " 2;");
        }
    }

    private static void emptyAndUnfinished() {
        check.about("text: {TELL}; the text's end: its length");
        fault(0, "");
        fault(0, " ");
        fault(0, "\n\t\r ");
        fault(0, "oil 1; \n");
        String whole = "stair 9; pilgrim a 1 2 3 4 5 kneels; moves = if 1 < 2 then (3) else 4; has = 1; oil 6;";
        for (int to = 0; to <= whole.length(); to++) {
            boolean isWhole = to == 0 || whole.charAt(to - 1) == ';' || to < whole.length() && whole.charAt(to - 1) == ' ' && whole.charAt(to - 2) == ';';
            String part = whole.substring(0, to);
            int begun = Math.max(part.lastIndexOf(' '), part.lastIndexOf(';')) + 1;
            String last = part.substring(begun);
            // a TOKEN cut off is another one, with which no text goes on where a word of the language is due
            boolean isCutWord = !last.isEmpty() && !java.util.Arrays.asList(WORDS).contains(last) && last.matches("[a-z]+") && !last.equals("a");
            due("cut at " + to, Check.fault(part), isWhole ? -1 : 10000 + (isCutWord ? begun : to));
            due("cut at " + to + " with blanks", Check.fault(part + " \n"), isWhole ? -1 : 10000 + (isCutWord ? begun : to + 2));
        }
        check.about("each TOKEN where it is not due");
        fault(1, "@;");
        fault(1, "stair @;");
        fault(1, "stair 9 @9;");
        fault(1, "stair 9@=;");
        fault(1, "pilgrim a 1 2 3 4@;");
        fault(1, "pilgrim a 1 2 3 4 5 @6;");
        fault(1, "pilgrim a 1 2 3 4 5 kneels @kneels;");
        fault(1, "pilgrim @1 2 3 4 5;");
        fault(1, "moves@;");
        fault(1, "moves =@;");
        fault(1, "moves = @=;");
        fault(1, "has = (@);");
        fault(1, "has = (1@;");
        fault(1, "has = 1@);");
        fault(1, "has = @-1;");
        fault(1, "has = 1 * @/ 2;");
        fault(1, "has = 1@<2;");
        fault(1, "has = if 1@;");
        fault(1, "has = if 1 < 2 @< 3 then 4 else 5;");
        fault(1, "has = if 1 < @if;");
        fault(1, "has = 1 + @if 1 < 2 then 3 else 4;");
        fault(1, "has = if 1 < 2 then @if 1 < 2 then 3 else 4 else 5;");
        fault(1, "has = if 1 < 2 then 3 else 4 @else 5;");
        fault(1, "oil@;");
        fault(1, "oil 1@");
    }

    private static void top() {
        check.about("STAIR: its TOP, 1 .. 99 (20; the last one told)");
        due("1", Check.told("stair 1;").count(1), 1);
        due("99", Check.told("stair 99;").count(1), 99);
        due("not told", Check.told("oil 1;").count(1), 20);
        due("the last one", Check.told("stair 99; stair 1; stair 7;").count(1), 7);
        fault(5, "stair @0;");
        fault(5, "stair @0000;");
        fault(5, "stair @100;");
        fault(5, "stair @9999;");
        fault(5, "stair @100; stair 7;");
        fault(5, "stair 7; stair @0;");
    }

    private static String eight() {
        StringBuilder s = new StringBuilder();
        for (int p = 0; p < 8; p++) {
            s.append("pilgrim ").append((char) ('a' + p)).append(' ').append(p).append(" 1 1 9 ").append(10 + p).append(';');
        }
        return s.toString();
    }

    private static void pilgrims() {
        check.about("PILGRIMS, 8 at most, numbered from 0 on as they stand");
        KneeStair x = Check.told(eight());
        due("how many", x.count(0), 8);
        for (int p = 0; p < 8; p++) {
            due("step of " + p, x.pilgrim(p, 0), p);
            due("wage of " + p, x.pilgrim(p, 7), 10 + p);
        }
        due("the ninth", x.pilgrim(8, 0), -10000);
        due("none", Check.told("oil 1;").count(0), 0);
        due("one", Check.told(pilgrim("a")).count(0), 1);
        due("others between", Check.told(pilgrim("a") + "oil 1;" + pilgrim("b") + "stair 3;").count(0), 2);
    }

    private static void numbersOfPilgrims() {
        check.about("STEP 0 .. 99, KNEES 0 .. 4, DOUBT 0 .. 9, SORE 1 .. 99, WAGE 0 .. 99, whether he kneels");
        KneeStair x = Check.told("stair 99; pilgrim a 0 0 0 1 0; pilgrim b 98 4 9 99 99 kneels; pilgrim c 99 4 9 99 99; moves = doubt;");
        int[][] want = {{0, 0, 0, 0, -2, 0, 0, 0}, {98, 1, 0, 0, -2, 98, 4, 99}, {99, 0, 0, 0, 0, 99, 4, 99}};
        for (int p = 0; p < 3; p++) {
            for (int what = 0; what < 8; what++) {
                due("pilgrim(" + p + ", " + what + ")", x.pilgrim(p, what), want[p][what]);
            }
        }
        due("doubt 0 is told, 9 is not looked at", x.moves(), 0);
        due("doubt 9", Check.told("pilgrim a 0 0 9 1 0; moves = doubt;").moves(), 9);
        fault(5, "pilgrim a @100 0 0 1 0;");
        fault(5, "pilgrim a 0 @5 0 1 0;");
        fault(5, "pilgrim a 0 0 @10 1 0;");
        fault(5, "pilgrim a 0 0 0 @0 0;");
        fault(5, "pilgrim a 0 0 0 @100 0;");
        fault(5, "pilgrim a 0 0 0 1 @100;");
        fault(5, "pilgrim a @9999 9999 9999 9999 9999 kneels;");
        fault(5, "pilgrim a 99 4 9 99 @9999 kneels;");
    }

    private static void lawsAndOilTold() {
        check.about("MOVES (knees - doubt, if not told), HAS (step, if not told), the last one");
        KneeStair x = Check.told("pilgrim a 7 4 1 9 9 kneels; pilgrim b 3 1 3 9 9;");
        due("moves", x.moves(), 1);
        due("has", x.pilgrim(0, 5), 7);
        x = Check.told("pilgrim a 7 4 1 9 9 kneels; moves = 1; has = 2; moves = 3; has = 4;");
        due("moves", x.moves(), 3);
        due("has", x.pilgrim(0, 5), 4);
        KneeStair y = Check.told("moves = 8; has = 9; " + pilgrim("a"));
        Check.feed(y, Check.bytes(pilgrim("a")));
        y.read();
        due("moves, not told again", y.moves(), 0);
        due("has, not told again", y.pilgrim(0, 5), 0);
        String ifs = "if 0 < 1 then 5 else if 0 < 1 then 6 else if 0 < 1 then 7 else if 0 < 1 then 8 else 9";
        x = Check.told(pilgrim("a") + "moves = " + ifs + "; moves = 1; has = " + ifs + "; has = 2;");
        due("moves, behind one of ifs", x.moves(), 1);
        due("has, behind one of ifs", x.pilgrim(0, 5), 2);
        Check.feed(x, Check.bytes(pilgrim("a") + "moves = " + ifs + "; has = " + ifs + ";"));
        x.read();
        due("moves, of ifs", x.moves(), 5);
        due("has, of ifs", x.pilgrim(0, 5), 5);
        Check.feed(x, Check.bytes("pilgrim a 3 0 8 1 0;"));
        x.read();
        due("moves, not told behind ifs", x.moves(), -8);
        due("has, not told behind ifs", x.pilgrim(0, 5), 3);
        check.about("OIL 0 .. 99 (0; the last one)");
        due("0", Check.told("oil 5; oil 0;").count(5), 0);
        due("99", Check.told("oil 5; oil 99;").count(5), 99);
        due("not told", Check.told("stair 1;").count(5), 0);
        fault(5, "oil @100;");
        fault(5, "oil @9999;");
        fault(5, "oil @100; oil 1;");
    }

    private static void tokens401() {
        check.about("ROOM: a 401st TOKEN");
        String oils = "oil 1;".repeat(132);
        fault(0, oils + "has=1;");
        fault(0, oils + "has=1; \n\t");
        fault(2, oils + "has=1;@oil 1;");
        fault(2, oils + "oil 1;oil @1;");
        fault(2, oils + "has=1+@1;");
        fault(1, oils + "has=1+");
        check.about("of one place the least: a 401st that no text goes on with");
        fault(1, oils + "has=1;@;");
        fault(1, oils + "has=1;@kneels");
        fault(1, oils + "has=1;@name");
        fault(1, oils + "has=1;@7");
        fault(1, oils + "has=1;@?");
        fault(1, oils + "has=1;@abcdefghi");
        fault(1, oils + "has=1;@12345");
        fault(1, oils + "has=1+@+");
        check.about("a fault ahead of the 401st TOKEN");
        fault(1, "oil 1;@1 oil 1;" + oils + oils);
        fault(2, eight() + "@pilgrim i 0 0 0 1 0;" + oils + oils);
        check.about("ROOM is ahead of WRONG and TWICE");
        fault(2, "oil 777;" + oils + "oil @1;");
        fault(2, pilgrim("a") + pilgrim("a") + "oil 1;".repeat(128) + "@oil 1;");
    }

    private static void pilgrim9() {
        check.about("ROOM: a 9th pilgrim (at its first TOKEN)");
        fault(0, eight());
        fault(0, eight() + "stair 9;");
        fault(2, eight() + "@pilgrim i 0 0 0 1 0;");
        fault(2, eight() + " \n@pilgrim");
        fault(2, eight() + "@pilgrim ; ; ;");
        fault(2, eight() + "@pilgrim abcdefghi");
        fault(2, eight() + "@pilgrim a 100 5 10 0 100;");
        fault(2, eight() + "oil 1; @pilgrim i 0 0 0 1 0;");
        fault(1, eight() + "oil 1 @pilgrim i 0 0 0 1 0;");
        fault(1, eight() + "@pilgrims i 0 0 0 1 0;");
    }

    private static void if5() {
        check.about("ROOM: a 5th if of a LAW (at it)");
        String one = "if 1 < 2 then 3 else ";
        fault(0, "moves = " + one.repeat(4) + "5; has = " + one.repeat(4) + "5; moves = " + one.repeat(4) + "5;");
        fault(2, "moves = " + one.repeat(4) + "@" + one + "5;");
        fault(2, "has = " + one.repeat(4) + "@if ; ;");
        fault(2, "has = " + one.repeat(3) + "1; has = " + one.repeat(4) + "@if");
        fault(1, "has = " + one.repeat(3) + "if 1 < 2 then @if 1 < 2 then 3 else 4");
        fault(1, "has = " + one.repeat(4) + "1 @if");
        fault(1, "has = " + one.repeat(4) + "@then");
    }

    private static void open7() {
        check.about("ROOM: a 7th ( within one another (at it)");
        fault(0, "has = ((((((1))))));");
        fault(0, "has = ((((((1)+(1))+(1))+(1))+(1))+(1));");
        fault(0, "has = if ((((((1)))))) < ((((((1)))))) then ((((((1)))))) else ((((((1))))));");
        fault(2, "has = ((((((@(1)))))));");
        fault(2, "has = ((((((1 + @(1)))))));");
        fault(2, "has = ((((((1) * (@(1)))))));");
        fault(2, "has = if ((((((@(1))))))) < 2 then 3 else 4;");
        fault(2, "has = if 1 < ((((((@(2))))))) then 3 else 4;");
        fault(2, "has = if 1 < 2 then ((((((@(3))))))) else 4;");
        fault(2, "has = if 1 < 2 then 3 else ((((((@(4)))))));");
        fault(2, "has = if 1 < 2 then 3 else if 1 < ((((((@(");
        fault(2, "has = ((((((@(");
        fault(1, "has = ((((((1 @(");
        fault(0, "has = (1)+(1)+(1)+(1)+(1)+(1)+(1)+(1)+(1);");
        due("told within six", has("((((((2) * 3) * 4) - 5) * 6) + 7)"), 121);
    }

    private static void faultsByPlace() {
        check.about("the first by its place; SYNTAX and ROOM ahead of all others");
        fault(1, "stair @; " + eight() + "pilgrim i");
        fault(2, eight() + "@pilgrim i 0 0 0 1 0; ;");
        fault(1, "stair 0; oil 100; @kneels;");
        fault(1, "stair 0;" + pilgrim("a") + pilgrim("a") + "oil 1");
        fault(2, "stair 0;" + eight() + "@pilgrim");
        fault(2, eight().replace("pilgrim b", "pilgrim a") + "@pilgrim");
        fault(2, "stair 100; has = ((((((@((");
    }

    private static void twice() {
        check.about("TWICE: a NAME told already");
        fault(3, pilgrim("a") + "pilgrim @a 0 0 0 1 0;");
        fault(3, pilgrim("abcdefgh") + pilgrim("b") + "pilgrim @abcdefgh 0 0 0 1 0;");
        fault(0, pilgrim("abcdefgh") + pilgrim("abcdefgg") + pilgrim("bbcdefgh") + pilgrim("abcdefg"));
        fault(0, pilgrim("a") + pilgrim("aa") + pilgrim("aaa") + pilgrim("b") + pilgrim("ba") + pilgrim("ab"));
        fault(3, eight().replace("pilgrim h", "pilgrim @a"));
        fault(3, eight().replace("pilgrim h", "pilgrim @g"));
        fault(3, pilgrim("a") + "pilgrim @a 0 0 0 1 0;" + pilgrim("a") + "stair 0;");
        KneeStair x = Check.told(pilgrim("a"));
        Check.feed(x, Check.bytes(pilgrim("a")));
        due("told by the text ahead", x.read(), 0);
    }

    private static void wrong() {
        check.about("TWICE and WRONG, the first by its place");
        fault(5, "stair @0;" + pilgrim("a") + pilgrim("a"));
        fault(3, pilgrim("a") + "pilgrim @a 0 0 0 1 0; stair 0;");
        fault(3, pilgrim("a") + "pilgrim @a 100 0 0 1 0;");
        fault(5, "pilgrim a @100 5 10 0 100;" + pilgrim("a"));
        fault(5, "pilgrim a 99 4 9 @0 100; oil 100;");
        fault(0, "has = 9999; moves = 9999;");
    }

    private static KneeStair emptyTaped() {
        KneeStair x = Traces.busy();
        x.back(20);
        return x;
    }

    private static void faultChangesNothing() {
        check.about("a text with a FAULT changes nothing but the tape");
        String[] texts = {"stair 3; oil 7; moves = 1; has = 3; pilgrim z 1 1 1 1 1; ?", "stair 3; oil 7; " + eight() + pilgrim("i"),
            "stair 3; moves = 4; " + pilgrim("z") + pilgrim("z"), "stair 3; moves = 4; has = 7; " + pilgrim("z") + "oil 100;"};
        int[] faults = {1, 2, 3, 5};
        for (int i = 0; i < texts.length; i++) {
            KneeStair x = emptyTaped();
            Check.feed(x, Check.bytes(texts[i]));
            due("read of " + texts[i], x.read(), faults[i]);
            due("bytes on the tape", x.count(7), 0);
            traces.alike("the text " + texts[i], x, emptyTaped());
        }
    }

    private static void textInPlace() {
        check.about("else it is in place of the one ahead");
        String[] texts = {"", "oil 1;", "stair 3; pilgrim z 1 1 1 1 1 kneels; pilgrim y 99 4 9 9 9;", eight() + "moves = 2; has = 3; oil 4;"};
        for (String text : texts) {
            KneeStair x = emptyTaped();
            Check.feed(x, Check.bytes(text));
            due("read", x.read(), 0);
            due("nothing can be undone", x.count(8), 0);
            due("nothing is TOLD", x.count(9), 0);
            due("SLOTS hold nothing", x.count(10), 0);
            due("the minute", x.count(2), 0);
            due("moved", x.count(6), 0);
            traces.alike("the text " + text, x, Check.told(text));
        }
        KneeStair x = emptyTaped();
        x.read();
        due("undo", x.undo() ? 1 : 0, 0);
        due("restore(0)", x.restore(0) ? 1 : 0, 0);
        due("restore(2)", x.restore(2) ? 1 : 0, 0);
        due("forget", x.forget(), 0);
    }

    private static void placeOfLatest() {
        check.about("5: the byte of the latest read()'s FAULT; NONE without");
        KneeStair x = new KneeStair();
        due("ahead of all", x.place(), -1);
        Check.feed(x, Check.bytes("?"));
        due("not read yet", x.place(), -1);
        due("read", x.read(), 1);
        due("the first byte", x.place(), 0);
        Check.feed(x, Check.bytes("oil 1; ?"));
        due("the one ahead still", x.place(), 0);
        due("read", x.read(), 1);
        due("place", x.place(), 7);
        due("read of nothing", x.read(), 0);
        due("none", x.place(), -1);
        Check.feed(x, Check.bytes(" ".repeat(1999) + "x"));
        due("read", x.read(), 1);
        due("the last byte", x.place(), 1999);
        Check.feed(x, Check.bytes(" ".repeat(1995) + "stair"));
        due("read", x.read(), 1);
        due("the end of the longest text", x.place(), 2000);
    }

    private static void atTop() {
        check.about("at TOP or above it: there already, as ARRIVED at minute 0");
        KneeStair x = Check.told("stair 5; pilgrim a 4 1 1 9 1 kneels; pilgrim b 5 1 1 9 1 kneels; pilgrim c 6 1 1 9 1; pilgrim d 99 1 1 9 1 kneels;"
                + "moves = knees * 100 + doubt * 10 + on - 100;");
        int[][] want = {{4, 1, 0, 0, -2, 4}, {5, 0, 0, 0, 0, 5}, {5, 0, 0, 0, 0, 5}, {5, 0, 0, 0, 0, 5}};
        for (int p = 0; p < 4; p++) {
            for (int what = 0; what < 6; what++) {
                due("pilgrim(" + p + ", " + what + ")", x.pilgrim(p, what), want[p][what]);
            }
        }
        due("ON", x.count(3), 1);
        due("who kneels", x.count(4), 1);
        due("moves by who is ON it", x.moves(), 1);
        KneeStair low = Check.told("pilgrim a 3 1 1 9 1; pilgrim b 4 1 1 9 1; stair 4;");
        due("TOP told behind them", low.pilgrim(0, 4), -2);
        due("TOP told behind them", low.pilgrim(1, 4), 0);
        due("TOP of 20", Check.told("pilgrim a 19 1 1 9 1;").pilgrim(0, 4), -2);
        due("TOP of 20", Check.told("pilgrim a 20 1 1 9 1;").pilgrim(0, 4), 0);
    }
}

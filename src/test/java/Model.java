import java.util.ArrayDeque;
import java.util.ArrayList;
import java.util.Arrays;
import java.util.Deque;
import java.util.HashSet;
import java.util.List;
import java.util.Set;

/**
 * The document once more, written another way (a table for the grammar, laws told from their
 * tokens each time, new objects for each state), to hold the program's answers against.
 */
final class Model {
    static final class Token {
        String kind;
        String text;
        int place;
        Token(String kind, String text, int place) {
            this.kind = kind;
            this.text = text;
            this.place = place;
        }
    }

    static final class Body implements Cloneable {
        int step, knees, doubt, sorest, wage, sore, borne;
        int arrived = -2;
        boolean kneels;
        boolean gone;
        boolean on() {
            return arrived == -2 && !gone;
        }
        Body copy() {
            try {
                return (Body) clone();
            } catch (CloneNotSupportedException e) {
                throw new IllegalStateException(e);
            }
        }
    }

    final class World {
        List<Body> bodies = new ArrayList<>();
        int oil, minute, moved, ghostDoubt;
        World copy() {
            World w = new World();
            for (Body b : bodies) w.bodies.add(b.copy());
            w.oil = oil;
            w.minute = minute;
            w.moved = moved;
            w.ghostDoubt = ghostDoubt;
            return w;
        }
        int moves() {
            return Math.max(-9, Math.min(9, tells(movesLaw, this, null)));
        }
        int has(int p) {
            return Math.max(-9999, Math.min(9999, tells(hasLaw, this, bodies.get(p))));
        }
        World after(int n) {
            World w = copy();
            for (int i = 0; i < n; i++) w.minute();
            return w;
        }
        void minute() {
            int far = moves();
            for (Body b : bodies) if (b.on() && b.kneels && far > 0) b.borne += b.knees * far;
            for (Body b : bodies) if (b.on()) b.step = Math.max(0, b.step + far);
            for (Body b : bodies) {
                if (b.on() && b.step >= top) {
                    b.step = top;
                    b.arrived = minute;
                    b.kneels = false;
                }
            }
            for (Body b : bodies) {
                if (!b.on()) continue;
                if (b.kneels) {
                    b.sore++;
                    if (b.sore == b.sorest) b.kneels = false;
                } else if (b.sore > 0) {
                    b.sore--;
                }
            }
            if (oil > 0) oil--;
            minute++;
            moved += far;
        }
        boolean may(int p) {
            Body b = bodies.get(p);
            return b.on() && b.sore < b.sorest;
        }
        World kneeling(int set) {
            World w = copy();
            for (int p = 0; p < bodies.size(); p++) w.bodies.get(p).kneels = (set & (1 << p)) != 0;
            return w;
        }
        int arrivedCount() {
            int n = 0;
            for (Body b : bodies) if (b.arrived != -2) n++;
            return n;
        }
        int mayMask() {
            int m = 0;
            for (int p = 0; p < bodies.size(); p++) if (may(p)) m |= 1 << p;
            return m;
        }
    }

    static final class DividedByZero extends RuntimeException {
        private static final long serialVersionUID = 1L;
    }

    // ---- the state

    private final List<Byte> tape = new ArrayList<>();
    private int place = -1;
    private int top = 20;
    private List<Token> movesLaw = tokens("knees - doubt");
    private List<Token> hasLaw = tokens("step");
    private World start = new World();
    private World now = new World();
    private final Deque<World> past = new ArrayDeque<>();
    private final World[] slots = new World[3];
    private final List<int[]> told = new ArrayList<>();

    // ---- laws, told from their tokens

    private final class Teller {
        private final List<Token> law;
        private final World world;
        private final Body body;
        private int at = 0;
        Teller(List<Token> law, World world, Body body) {
            this.law = law;
            this.world = world;
            this.body = body;
        }
        private boolean is(String text) {
            return at < law.size() && law.get(at).text.equals(text);
        }
        int law() {
            while (is("if")) {
                at++;
                int left = sum();
                at++;
                int right = sum();
                at++;
                if (left < right) return sum();
                while (!is("else")) at++;
                at++;
            }
            return sum();
        }
        private int sum() {
            int value = product();
            while (is("+") || is("-")) {
                boolean plus = is("+");
                at++;
                int right = product();
                value = plus ? value + right : value - right;
            }
            return value;
        }
        private int product() {
            int value = unit();
            while (is("*") || is("/")) {
                boolean times = is("*");
                at++;
                int right = unit();
                if (!times && right == 0) throw new DividedByZero();
                value = times ? value * right : value / right;
            }
            return value;
        }
        private int unit() {
            Token t = law.get(at++);
            if (t.text.equals("(")) {
                int value = sum();
                at++;
                return value;
            }
            if (t.kind.equals("INT")) return Integer.parseInt(t.text);
            int value = 0;
            switch (t.text) {
                case "knees": for (Body b : world.bodies) if (b.on() && b.kneels) value += b.knees; return value;
                case "doubt": for (Body b : world.bodies) if (b.on() && !b.kneels) value += b.doubt; return value + world.ghostDoubt;
                case "oiled": return world.oil;
                case "minute": return world.minute;
                case "on": for (Body b : world.bodies) if (b.on()) value++; return value;
                case "step": return body == null ? 0 : body.step;
                case "sore": return body == null ? 0 : body.sore;
                case "borne": return body == null ? 0 : body.borne;
                default: throw new IllegalStateException(t.text);
            }
        }
    }

    private int tells(List<Token> law, World world, Body body) {
        try {
            return new Teller(law, world, body).law();
        } catch (DividedByZero e) {
            return 0;
        }
    }

    // ---- the grammar, by a table

    private static final Set<String> VARS = new HashSet<>(Arrays.asList(
            "knees", "doubt", "oiled", "minute", "on", "step", "sore", "borne"));
    private static final Set<String> WORDS = new HashSet<>(Arrays.asList(
            "stair", "pilgrim", "kneels", "moves", "has", "oil", "if", "then", "else"));

    private static List<Token> tokens(String s) {
        List<Token> all = new ArrayList<>();
        int i = 0;
        while (true) {
            while (i < s.length() && "\t\n\r ".indexOf(s.charAt(i)) >= 0) i++;
            if (i == s.length()) return all;
            int j = i;
            if (s.substring(i).matches("(?s)[a-z].*")) {
                while (j < s.length() && s.charAt(j) >= 'a' && s.charAt(j) <= 'z') j++;
                String word = s.substring(i, j);
                String kind = word.length() > 8 ? "BAD" : VARS.contains(word) ? "VAR" : WORDS.contains(word) ? word : "NAME";
                all.add(new Token(kind, word, i));
            } else if (s.substring(i).matches("(?s)[0-9].*")) {
                while (j < s.length() && s.charAt(j) >= '0' && s.charAt(j) <= '9') j++;
                all.add(new Token(j - i > 4 ? "BAD" : "INT", s.substring(i, j), i));
            } else {
                j = i + 1;
                String sign = s.substring(i, j);
                all.add(new Token(";=+-*/<()".contains(sign) ? sign : "BAD", sign, i));
            }
            i = j;
        }
    }

    private static String rule(String symbol, String look) {
        switch (symbol) {
            case "text": return look.equals("END") ? "" : "TELL text";
            case "TELL":
                switch (look) {
                    case "stair": return "stair INT ;";
                    case "pilgrim": return "pilgrim NAME INT INT INT INT INT maybe ;";
                    case "moves": return "moves LAW ;";
                    case "has": return "has LAW ;";
                    case "oil": return "oil INT ;";
                    default: return null;
                }
            case "maybe": return look.equals("kneels") ? "kneels" : "";
            case "LAW": return "= ifs E";
            case "ifs": return look.equals("if") ? "if E < E then E else ifs" : "";
            case "E": return "PART parts";
            case "parts": return look.equals("+") ? "+ PART parts" : look.equals("-") ? "- PART parts" : "";
            case "PART": return "UNIT units";
            case "units": return look.equals("*") ? "* UNIT units" : look.equals("/") ? "/ UNIT units" : "";
            case "UNIT": return look.equals("INT") ? "INT" : look.equals("VAR") ? "VAR" : look.equals("(") ? "( E )" : null;
            default: return "terminal";
        }
    }

    /** The number and the place of the first SYNTAX or ROOM, or null. */
    private static int[] early(List<Token> all, int end) {
        Deque<String> stack = new ArrayDeque<>();
        stack.push("text");
        int at = 0, pilgrims = 0, ifs = 0, open = 0;
        while (!stack.isEmpty()) {
            Token t = at < all.size() ? all.get(at) : new Token("END", "", end);
            String symbol = stack.pop();
            String rule = rule(symbol, t.kind);
            if (rule == null) return new int[] {1, t.place};
            if (!rule.equals("terminal")) {
                String[] parts = rule.isEmpty() ? new String[0] : rule.split(" ");
                for (int i = parts.length - 1; i >= 0; i--) stack.push(parts[i]);
                continue;
            }
            if (!symbol.equals(t.kind)) return new int[] {1, t.place};
            if (t.kind.equals("=")) {
                ifs = 0;
                open = 0;
            }
            if (t.kind.equals("pilgrim")) pilgrims++;
            if (t.kind.equals("if")) ifs++;
            if (t.kind.equals("(")) open++;
            if (t.kind.equals(")")) open--;
            if (at >= 400 || pilgrims > 8 || ifs > 4 || open > 6) return new int[] {2, t.place};
            at++;
        }
        return null;
    }

    int read() {
        StringBuilder s = new StringBuilder();
        for (byte b : tape) s.append((char) (b & 255));
        tape.clear();
        List<Token> all = tokens(s.toString());
        int[] fault = early(all, s.length());
        if (fault != null) {
            place = fault[1];
            return fault[0];
        }
        int newTop = 20, newOil = 0;
        List<Token> newMoves = tokens("knees - doubt"), newHas = tokens("step");
        List<Body> bodies = new ArrayList<>();
        Set<String> names = new HashSet<>();
        List<int[]> faults = new ArrayList<>();
        for (int i = 0; i < all.size();) {
            int end = i;
            while (!all.get(end).text.equals(";")) end++;
            List<Token> tell = all.subList(i, end);
            switch (tell.get(0).text) {
                case "stair": newTop = number(tell.get(1), 1, 99, faults); break;
                case "oil": newOil = number(tell.get(1), 0, 99, faults); break;
                case "moves": newMoves = new ArrayList<>(tell.subList(2, tell.size())); break;
                case "has": newHas = new ArrayList<>(tell.subList(2, tell.size())); break;
                default:
                    if (!names.add(tell.get(1).text)) faults.add(new int[] {3, tell.get(1).place});
                    Body b = new Body();
                    b.step = number(tell.get(2), 0, 99, faults);
                    b.knees = number(tell.get(3), 0, 4, faults);
                    b.doubt = number(tell.get(4), 0, 9, faults);
                    b.sorest = number(tell.get(5), 1, 99, faults);
                    b.wage = number(tell.get(6), 0, 99, faults);
                    b.kneels = tell.size() == 8;
                    bodies.add(b);
            }
            i = end + 1;
        }
        if (!faults.isEmpty()) {
            place = faults.get(0)[1];
            return faults.get(0)[0];
        }
        place = -1;
        top = newTop;
        movesLaw = newMoves;
        hasLaw = newHas;
        start = new World();
        start.oil = newOil;
        start.bodies = bodies;
        for (Body b : bodies) {
            if (b.step >= top) {
                b.step = top;
                b.arrived = 0;
                b.kneels = false;
            }
        }
        now = start.copy();
        past.clear();
        told.clear();
        Arrays.fill(slots, null);
        return 0;
    }

    private static int number(Token t, int least, int most, List<int[]> faults) {
        int n = Integer.parseInt(t.text);
        if (n < least || n > most) faults.add(new int[] {5, t.place});
        return n;
    }

    // ---- the face

    int feed(int a, int b, int c, int d, int e) {
        if (tape.size() > 1980) return -1;
        for (int w : new int[] {a, b, c, d, e}) {
            tape.add((byte) (w >>> 24));
            tape.add((byte) (w >>> 16));
            tape.add((byte) (w >>> 8));
            tape.add((byte) w);
        }
        return tape.size();
    }

    int back(int n) {
        if (n < 0 || n > tape.size()) return -1;
        for (int i = 0; i < n; i++) tape.remove(tape.size() - 1);
        return tape.size();
    }

    int place() {
        return place;
    }

    private boolean is(int p) {
        return p >= 0 && p < now.bodies.size();
    }

    private static boolean in(int n, int least, int most) {
        return n >= least && n <= most;
    }

    int pilgrim(int p, int what) {
        if (!is(p)) return -10000;
        Body b = now.bodies.get(p);
        int[] answers = {b.step, b.kneels ? 1 : 0, b.sore, b.borne, b.arrived, now.has(p), b.knees, b.wage};
        return in(what, 0, 7) ? answers[what] : -10000;
    }

    int moves() {
        return now.moves();
    }

    private World doing() {
        past.addLast(now.copy());
        if (past.size() > 50) past.removeFirst();
        return now;
    }

    boolean kneel(int p) {
        if (!is(p) || now.bodies.get(p).kneels || !now.may(p)) return false;
        doing().bodies.get(p).kneels = true;
        return true;
    }

    boolean rise(int p) {
        if (!is(p) || !now.bodies.get(p).kneels) return false;
        doing().bodies.get(p).kneels = false;
        return true;
    }

    boolean board(int p) {
        if (!is(p) || now.bodies.get(p).arrived == -2) return false;
        Body b = doing().bodies.get(p);
        b.arrived = -2;
        b.step = 0;
        return true;
    }

    int oil(int n) {
        if (!in(n, 1, 99) || now.oil + n > 999) return -1;
        return doing().oil += n;
    }

    int run(int n) {
        if (!in(n, 0, 300)) return -1;
        if (n > 0) {
            doing();
            now = now.after(n);
        }
        return now.minute;
    }

    boolean undo() {
        if (past.isEmpty()) return false;
        now = past.removeLast();
        return true;
    }

    int arrives(int p) {
        return is(p) ? arrivesIn(now, p, 300) : -1;
    }

    private int arrivesIn(World from, int p, int n) {
        World w = from.copy();
        for (int t = 0; t <= n; t++) {
            if (w.bodies.get(p).arrived != -2) return t;
            w.minute();
        }
        return -2;
    }

    int still() {
        World w = now.copy();
        for (int t = 0; t <= 300; t++) {
            if (w.moves() == 0) return t;
            w.minute();
        }
        return -2;
    }

    int highest(int p, int n) {
        if (!is(p) || !in(n, 0, 300)) return -1;
        int best = -1;
        World w = now.copy();
        for (int t = 0; t <= n; t++) {
            best = Math.max(best, w.bodies.get(p).step);
            w.minute();
        }
        return best;
    }

    int first(int what) {
        if (!in(what, 0, 1)) return -1;
        int who = -2, when = -2;
        for (int p = 0; p < now.bodies.size(); p++) {
            if (!now.bodies.get(p).on()) continue;
            int t = arrives(p);
            if (t != -2 && (when == -2 || t < when)) {
                who = p;
                when = t;
            }
        }
        return what == 0 ? who : when;
    }

    int means(int one, int other, int n) {
        if (!is(one) || !is(other) || one == other || !in(n, 1, 300)) return -10000;
        World without = now.copy();
        without.bodies.get(one).gone = true;
        return now.after(n).bodies.get(other).step - without.after(n).bodies.get(other).step;
    }

    int oiled(int p, int n) {
        if (!is(p) || !in(n, 1, 300)) return -1;
        for (int m = 0; m <= 300; m++) {
            World w = now.copy();
            w.oil += m;
            if (arrivesIn(w, p, n) != -2) return m;
        }
        return -2;
    }

    int doubted(int p, int n) {
        if (!is(p) || !in(n, 1, 300)) return -1;
        for (int m = 300; m >= 0; m--) {
            World w = now.copy();
            w.ghostDoubt = m;
            if (arrivesIn(w, p, n) != -2) return m;
        }
        return -2;
    }

    int bestStart(int p, int n, int what) {
        if (!is(p) || !in(n, 1, 300) || !in(what, 0, 1) || !now.bodies.get(p).on()) return -1;
        int best = -1, bestStep = -1;
        World standing = now.copy();
        standing.bodies.get(p).kneels = false;
        for (int s = 0; s < n; s++) {
            World w = standing.copy();
            if (w.may(p)) w.bodies.get(p).kneels = true;
            int step = w.after(n - s).bodies.get(p).step;
            if (step > bestStep) {
                best = s;
                bestStep = step;
            }
            standing.minute();
        }
        return what == 0 ? best : bestStep;
    }

    int meet(int one, int other) {
        if (!is(one) || !is(other) || one == other) return -1;
        World w = now.copy();
        for (int t = 0; t <= 300; t++) {
            if (w.bodies.get(one).step == w.bodies.get(other).step) return t;
            w.minute();
        }
        return -2;
    }

    int most(int what) {
        if (!in(what, 0, 1)) return -1;
        if (now.bodies.isEmpty()) return -2;
        int who = 0;
        for (int p = 0; p < now.bodies.size(); p++) if (now.bodies.get(p).borne > now.bodies.get(who).borne) who = p;
        return what == 0 ? who : now.bodies.get(who).borne;
    }

    int lowest(int n) {
        if (!in(n, 0, 300)) return -1;
        int least = 1000;
        World w = now.copy();
        for (int t = 0; t <= n; t++) {
            for (Body b : w.bodies) if (b.on()) least = Math.min(least, b.step);
            w.minute();
        }
        return least == 1000 ? -2 : least;
    }

    int bestTwo(int n, int what) {
        if (!in(n, 1, 300) || !in(what, 0, 1)) return -1;
        int best = -2, pair = -2;
        for (int i = 0; i < now.bodies.size(); i++) {
            for (int j = i + 1; j < now.bodies.size(); j++) {
                if (!now.may(i) || !now.may(j)) continue;
                int sum = 0;
                for (Body b : now.kneeling((1 << i) + (1 << j)).after(n).bodies) sum += b.step;
                if (sum > best) {
                    best = sum;
                    pair = 10 * i + j;
                }
            }
        }
        return what == 0 ? best : pair;
    }

    int exchange(int p, int n, int what) {
        if (!is(p) || !in(n, 1, 300) || !in(what, 0, 1)) return -1;
        int without = now.after(n).bodies.get(p).step;
        int best = -2, pair = -2;
        for (int i = 0; i < now.bodies.size(); i++) {
            if (!now.bodies.get(i).kneels) continue;
            for (int j = 0; j < now.bodies.size(); j++) {
                if (now.bodies.get(j).kneels || !now.may(j)) continue;
                World w = now.copy();
                w.bodies.get(i).kneels = false;
                w.bodies.get(j).kneels = true;
                int step = w.after(n).bodies.get(p).step;
                if (step > without && step > best) {
                    best = step;
                    pair = 10 * i + j;
                }
            }
        }
        return what == 0 ? pair : best;
    }

    int rank(int p) {
        if (!is(p)) return -1;
        int n = 0;
        int mine = now.bodies.get(p).step;
        for (int q = 0; q < now.bodies.size(); q++) {
            int his = now.bodies.get(q).step;
            if (his > mine || (his == mine && q < p)) n++;
        }
        return n;
    }

    int share(int p, boolean below) {
        if (!is(p)) return -1;
        int all = 0;
        for (Body b : now.bodies) all += b.borne;
        int his = now.bodies.get(p).borne;
        if (his == 0) return below ? 1 : 0;
        int g = java.math.BigInteger.valueOf(his).gcd(java.math.BigInteger.valueOf(all)).intValue();
        return below ? all / g : his / g;
    }

    int there(int step) {
        if (!in(step, 0, 99)) return -1;
        int n = 0;
        for (Body b : now.bodies) if (b.step == step) n++;
        return n;
    }

    int kneelers(int k, int n, int what) {
        if (!in(k, 1, 8) || !in(n, 1, 300) || !in(what, 0, 1)) return -1;
        int may = now.mayMask();
        long best = Long.MAX_VALUE;
        for (int set = 0; set < 256; set++) {
            if ((set | may) != may) continue;
            if (now.kneeling(set).after(n).arrivedCount() - now.arrivedCount() < k) continue;
            int wages = 0, knees = 0;
            for (int p = 0; p < now.bodies.size(); p++) {
                if ((set & (1 << p)) != 0) {
                    wages += now.bodies.get(p).wage;
                    knees += now.bodies.get(p).knees;
                }
            }
            best = Math.min(best, (wages * 1000L + knees) * 1000L + set);
        }
        if (best == Long.MAX_VALUE) return -2;
        return (int) (what == 0 ? best / 1000000 : best % 1000);
    }

    int rests(int n, int i) {
        if (!in(n, 1, 100) || i < -1) return -1;
        int may = now.mayMask();
        List<Integer> found = new ArrayList<>();
        World[] ends = new World[256];
        for (int set = 0; set < 256; set++) if ((set | may) == may) ends[set] = now.kneeling(set).after(n);
        for (int set = 0; set < 256; set++) {
            if (ends[set] == null) continue;
            boolean rest = true;
            for (int p = 0; p < now.bodies.size(); p++) {
                if (now.may(p) && ends[set ^ (1 << p)].has(p) > ends[set].has(p)) rest = false;
            }
            if (rest) found.add(set);
        }
        return pick(found, i);
    }

    private static int pick(List<Integer> found, int i) {
        return i == -1 ? found.size() : i < found.size() ? found.get(i) : -1;
    }

    int tell(int p, int minute, int step) {
        if (told.size() == 20 || !is(p) || !in(minute, 0, 99) || !in(step, 0, 99)) return -1;
        told.add(new int[] {p, minute, step});
        return told.size() - 1;
    }

    int forget() {
        int n = told.size();
        told.clear();
        return n;
    }

    /** The least TOLD one that is not so, if somebody rises ahead of a minute, or -2. */
    private int wrongWith(int k, int riser, int when) {
        for (int j = 0; j < k; j++) {
            int[] t = told.get(j);
            World w = start.copy();
            for (int m = 0; m <= t[1]; m++) {
                if (m == when) w.bodies.get(riser).kneels = false;
                w.minute();
            }
            if (w.bodies.get(t[0]).step != t[2]) return j;
        }
        return -2;
    }

    /** Where one is behind a minute, if another rose ahead of one; 0 for what can't be. */
    int stepIfRose(int riser, int when, int p, int minute) {
        World w = start.copy();
        for (int m = 0; m <= minute; m++) {
            if (m == when && is(riser)) w.bodies.get(riser).kneels = false;
            w.minute();
        }
        return is(p) ? w.bodies.get(p).step : 0;
    }

    int secret(int k, int i) {
        if (!in(k, 0, told.size()) || i < -1) return -1;
        int last = -1;
        for (int j = 0; j < k; j++) last = Math.max(last, told.get(j)[1]);
        List<Integer> found = new ArrayList<>();
        for (int p = 0; p < start.bodies.size(); p++) {
            if (!start.bodies.get(p).kneels) continue;
            for (int m = 0; m <= last; m++) if (wrongWith(k, p, m) == -2) found.add(100 * p + m);
        }
        return pick(found, i);
    }

    int off(int k) {
        return in(k, 0, told.size()) ? wrongWith(k, 0, -1) : -1;
    }

    boolean hold(int slot) {
        if (!in(slot, 0, 2)) return false;
        slots[slot] = now.copy();
        return true;
    }

    boolean restore(int slot) {
        if (!in(slot, 0, 2) || slots[slot] == null) return false;
        now = slots[slot].copy();
        past.clear();
        return true;
    }

    int count(int what) {
        int on = 0, kneel = 0, held = 0;
        for (Body b : now.bodies) {
            if (b.on()) on++;
            if (b.kneels) kneel++;
        }
        for (World w : slots) if (w != null) held++;
        int[] answers = {now.bodies.size(), top, now.minute, on, kneel, now.oil, now.moved, tape.size(),
            past.size(), told.size(), held};
        return in(what, 0, 10) ? answers[what] : -10000;
    }
}

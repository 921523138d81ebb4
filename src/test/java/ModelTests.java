import java.util.ArrayList;
import java.util.Arrays;
import java.util.Collections;
import java.util.Comparator;
import java.util.List;
import java.util.NoSuchElementException;
import java.util.Random;
import java.util.TreeSet;

/** Drawn runs of calls on BestWalks and on a slow model of the document, which must answer alike. */
public final class ModelTests {
    private static final int RUNS = 1500;
    private static final int CALLS = 512;
    private static int wrong = 0;

    public static void main(String[] args) {
        int runs = args.length > 0 ? Integer.parseInt(args[0]) : RUNS;
        long start = args.length > 1 ? Long.parseLong(args[1]) : 1;
        for (long seed = start; seed < start + runs && wrong < 5; seed++) {
            new Run(seed).go();
        }
        System.out.println(wrong == 0 ? "model: all answers are alike" : "model: " + wrong + " runs differ");
        if (wrong != 0) {
            System.exit(1);
        }
    }

    /** One run: the calls so far are told where the answers differ. */
    private static final class Run {
        final long seed;
        final Random random;
        final BestWalks real = new BestWalks();
        final Model model = new Model();
        final List<String> log = new ArrayList<>();
        final int style;
        final boolean quiet;
        int calls = 0;
        boolean differs = false;

        Run(long seed) {
            this.seed = seed;
            this.random = new Random(seed);
            this.style = random.nextInt(4);
            this.quiet = random.nextBoolean();
        }

        void go() {
            if (r(4) > 0) {
                build();
            }
            while (calls < CALLS - 40 && !differs) {
                step();
            }
            if (differs) {
                wrong++;
                System.out.println("seed " + seed + ":");
                int from = Math.max(0, log.size() - 25);
                for (String line : log.subList(from, log.size())) {
                    System.out.println("  " + line);
                }
            }
        }

        /** Fills lists, edges and the table, so that there is much of each kind. */
        void build() {
            for (int i = r(30); i > 0 && !differs; i--) {
                change(r(3));
            }
            for (int i = r(40); i > 0 && !differs; i--) {
                int a = r(7);
                int b = r(7);
                int w = style == 1 ? 1 + r(3) : 1 + r(99);
                check("joins(" + a + ", " + b + ", " + w + ")", real.joins(a, b, w), model.joins(a, b, w));
            }
            for (int i = r(20); i > 0 && !differs; i--) {
                change(8);
            }
            int size = r(6);
            check("sets(0, " + size + ")", real.sets(0, size), model.sets(0, size));
        }

        int r(int n) {
            return random.nextInt(n);
        }

        /** Mostly 0 .. n - 1, at times a little or far outside. */
        int near(int n) {
            int x = r(40);
            if (x == 0) {
                return -1;
            }
            if (x == 1) {
                return n;
            }
            if (x == 2) {
                int[] far = {Integer.MIN_VALUE, Integer.MAX_VALUE, -2, n + 1, 1000};
                return far[r(far.length)];
            }
            return r(Math.max(1, n));
        }

        int kind() {
            return near(5);
        }

        /** Mostly a place that there is of a kind. */
        int place(int kind) {
            int size = kind >= 0 && kind < 5 ? model.items(kind).size() : 0;
            if (size > 0 && r(3) > 0) {
                return 1 + r(Math.min(size + 1, 401));
            }
            int x = r(10);
            if (x == 0) {
                return 398 + r(5);
            }
            if (x == 1) {
                return r(3) - 1;
            }
            return 1 + r(x < 5 ? 6 : x < 8 ? 60 : 400);
        }

        void check(String call, Object mine, Object due) {
            calls++;
            log.add(call + " -> " + mine);
            if (!mine.equals(due)) {
                differs = true;
                log.add("   due is " + due);
            }
        }

        void checkRow() {
            int n = model.row.size();
            check("count(7)", real.count(7), n);
            for (int i = 0; i < n && !differs; i++) {
                check("row(" + i + ")", realRow(i), (Object) model.row.get(i));
            }
            if (r(10) == 0) {
                check("row(" + n + ")", realRow(n), (Object) "throws");
                check("row(-1)", realRow(-1), (Object) "throws");
            }
        }

        Object realRow(int i) {
            try {
                return real.row(i);
            } catch (NoSuchElementException e) {
                return "throws";
            }
        }

        Object realNumber(int x, int place) {
            try {
                return real.number(x, place);
            } catch (NoSuchElementException e) {
                return "throws";
            }
        }

        Object realEdge(int i, int what) {
            try {
                return real.edge(i, what);
            } catch (NoSuchElementException e) {
                return "throws";
            }
        }

        void tellText(String s) {
            int n = s.length();
            for (int i = 0; i < n; i += 4) {
                int v = 0;
                for (int j = 0; j < 4; j++) {
                    v = v << 8 | (i + j < n ? s.charAt(i + j) : 0);
                }
                check("sign('" + s.substring(i, Math.min(n, i + 4)) + "')", real.sign(v), model.sign(v));
            }
            check("end(" + n + ")", real.end(n), model.end(n));
        }

        String listText() {
            StringBuilder b = new StringBuilder();
            int n = r(8);
            for (int i = 0; i < n; i++) {
                if (i > 0) {
                    b.append(',');
                }
                b.append(r(r(3) == 0 ? 10 : 100));
            }
            return spoiled(b.toString(), "0123456789,;");
        }

        String spoiled(String s, String signs) {
            if (r(8) != 0) {
                return s;
            }
            StringBuilder b = new StringBuilder(s);
            int p = r(b.length() + 1);
            char c = r(6) == 0 ? (char) r(256) : signs.charAt(r(signs.length()));
            switch (r(3)) {
                case 0:
                    b.insert(p, c);
                    break;
                case 1:
                    if (p < b.length()) {
                        b.setCharAt(p, c);
                    }
                    break;
                default:
                    b.setLength(p);
                    break;
            }
            return b.length() > 80 ? b.substring(0, 80) : b.toString();
        }

        String expression(int depth) {
            StringBuilder b = new StringBuilder();
            int n = 1 + r(3);
            boolean compared = false;
            for (int i = 0; i < n; i++) {
                if (i > 0) {
                    String signs = compared ? "+-*/" : "+-*/<>=";
                    char c = r(30) == 0 ? '<' : signs.charAt(r(signs.length()));
                    compared |= "<>=".indexOf(c) >= 0;
                    b.append(c);
                }
                for (int j = r(4) == 0 ? 1 + r(3) : 0; j > 0; j--) {
                    b.append('-');
                }
                int x = r(10);
                if (x < 5) {
                    b.append("smlfepn".charAt(r(7)));
                } else if (x < 7 || depth == 0) {
                    b.append(r(3) == 0 ? r(10) : r(1010));
                } else {
                    b.append('(').append(expression(depth - 1)).append(')');
                }
            }
            return b.toString();
        }

        String ruleText() {
            if (r(12) == 0) {
                return "";
            }
            String s = expression(1 + r(5));
            if (s.length() > 60 && r(3) > 0) {
                s = expression(2);
            }
            if (r(10) == 0) {
                s = s + "-" + s + "+" + s;
            }
            s = s.length() > 80 ? s.substring(0, 80) : s;
            return spoiled(s, "smlfepn0123456789()+-*/<>=~");
        }

        String dayText() {
            StringBuilder b = new StringBuilder();
            int n = r(4) == 0 ? r(20) : r(6);
            for (int i = 0; i < n && b.length() < 70; i++) {
                b.append(actText());
            }
            String s = b.length() > 80 ? b.substring(0, 80) : b.toString();
            return spoiled(s, "ptjczke0123456789abcdefgh");
        }

        String actText() {
            char a = (char) ('a' + r(7));
            char c = (char) ('a' + r(7));
            int v = 10 + r(90);
            switch (r(7)) {
                case 0: return "p" + r(4) + v;
                case 1: return "t" + r(4) + r(4);
                case 2: return "j" + a + c + (r(4) == 0 ? "00" : "" + v);
                case 3: return "c" + r(5) + r(5) + v;
                case 4: return "z" + r(7);
                case 5: return "k" + r(5);
                default: return "e" + a + c;
            }
        }

        String rankText(int kind) {
            List<int[]> all = kind >= 0 && kind < 5 ? model.rows(kind) : new ArrayList<>();
            StringBuilder b = new StringBuilder();
            if (!all.isEmpty() && r(5) > 0) {
                for (int v : all.get(r(all.size()))) {
                    b.append((char) ('a' + v));
                }
            } else {
                int n = r(10);
                for (int i = 0; i < n; i++) {
                    b.append((char) ('a' + r(12)));
                }
            }
            return spoiled(b.toString(), "abcdefghijklm");
        }

        void step() {
            int x = r(100);
            int changes = quiet ? 3 : 28;
            if (x < changes) {
                change(r(12));
            } else if (x < changes + changes / 3) {
                textChange(r(5));
            } else if (x < 78) {
                question(r(18));
                checkRow();
            } else if (x < 84) {
                walk();
            } else {
                rest(quiet && r(2) == 0 ? r(8) : r(14));
            }
            if (!differs && r(3) == 0) {
                int what = near(10);
                check("count(" + what + ")", real.count(what), model.count(what));
            }
        }

        /** A cursor is opened and goes on a while. */
        void walk() {
            int c = r(3);
            int k = r(5);
            check("opens(" + c + ", " + k + ")", real.opens(c, k), model.opens(c, k));
            for (int i = r(8); i > 0 && !differs; i--) {
                if (r(4) == 0) {
                    int n = r(2) == 0 ? r(4) : place(k);
                    check("skips(" + c + ", " + n + ")", real.skips(c, n), model.skips(c, n));
                } else {
                    check("goes(" + c + ")", real.goes(c), model.goes(c));
                    checkRow();
                }
            }
        }

        void change(int which) {
            int a = near(7);
            int b = near(7);
            switch (which) {
                case 0: case 1: case 2: {
                    int x = near(4);
                    int v = near(style == 0 ? 10 : 100);
                    check("puts(" + x + ", " + v + ")", real.puts(x, v), model.puts(x, v));
                    break;
                }
                case 3: {
                    int x = near(4);
                    int p = near(6);
                    check("takes(" + x + ", " + p + ")", real.takes(x, p), model.takes(x, p));
                    break;
                }
                case 4: case 5: case 6: case 7: {
                    int w = r(12) == 0 ? 0 : style == 1 ? 1 + r(3) : near(100);
                    check("joins(" + a + ", " + b + ", " + w + ")", real.joins(a, b, w), model.joins(a, b, w));
                    break;
                }
                case 8: case 9: {
                    int p = near(5);
                    int j = near(5);
                    int v = near(style == 2 ? 4 : 100);
                    check("costs(" + p + ", " + j + ", " + v + ")", real.costs(p, j, v), model.costs(p, j, v));
                    break;
                }
                case 10: {
                    int w = near(2);
                    int v = near(6);
                    check("sets(" + w + ", " + v + ")", real.sets(w, v), model.sets(w, v));
                    break;
                }
                default:
                    check("ends(" + a + ", " + b + ")", real.ends(a, b), model.ends(a, b));
                    break;
            }
        }

        void textChange(int which) {
            switch (which) {
                case 0: {
                    tellText(listText());
                    int x = near(4);
                    check("lists(" + x + ")", real.lists(x), model.lists(x));
                    break;
                }
                case 1:
                    tellText(ruleText());
                    check("rule()", real.rule(), model.rule());
                    break;
                case 2: case 3:
                    tellText(dayText());
                    check("day()", real.day(), model.day());
                    checkRow();
                    break;
                default: {
                    int v = random.nextInt();
                    int n = near(12);
                    check("sign(" + v + ")", real.sign(v), model.sign(v));
                    check("end(" + n + ")", real.end(n), model.end(n));
                    break;
                }
            }
            check("count(8)", real.count(8), model.count(8));
        }

        void question(int which) {
            int k = kind();
            int p = place(k);
            int q = place(k);
            switch (which) {
                case 0: case 1:
                    check("best(" + k + ", " + p + ")", real.best(k, p), model.best(k, p));
                    break;
                case 2:
                    check("many(" + k + ")", real.many(k), model.many(k));
                    break;
                case 3: {
                    int c = r(10) == 0 ? random.nextInt() : r(300) - 20;
                    check("below(" + k + ", " + c + ")", real.below(k, c), model.below(k, c));
                    break;
                }
                case 4: case 5:
                    tellText(rankText(k));
                    check("rank(" + k + ")", real.rank(k), model.rank(k));
                    break;
                case 6:
                    check("alike(" + k + ", " + p + ")", real.alike(k, p), model.alike(k, p));
                    break;
                case 7:
                    check("surely(" + k + ")", real.surely(k), model.surely(k));
                    break;
                case 8: {
                    int i = r(3) == 0 ? near(8) : r(4);
                    int v = r(3) == 0 ? near(12) : r(5);
                    int is = near(2);
                    check("having(" + k + ", " + i + ", " + v + ", " + is + ")",
                            real.having(k, i, v, is), model.having(k, i, v, is));
                    break;
                }
                case 9:
                    check("differ(" + k + ", " + p + ", " + q + ")", real.differ(k, p, q), model.differ(k, p, q));
                    break;
                case 10:
                    check("gap(" + k + ", " + p + ")", real.gap(k, p), model.gap(k, p));
                    break;
                case 11: case 12:
                    check("fits(" + k + ")", real.fits(k), model.fits(k));
                    break;
                case 13:
                    check("asks(" + k + ")", real.asks(k), model.asks(k));
                    break;
                case 14: case 15: {
                    int c = r(10) == 0 ? random.nextInt() : r(300) - 20;
                    int n = 1 + near(3);
                    check("odds(" + k + ", " + c + ", " + n + ")", real.odds(k, c, n), model.odds(k, c, n));
                    break;
                }
                case 16: {
                    int x = near(4);
                    check("duel(" + x + ")", real.duel(x), model.duel(x));
                    break;
                }
                default:
                    tellText(ruleText());
                    check("law()", real.law(), model.law());
                    break;
            }
        }

        void rest(int which) {
            int c = near(3);
            switch (which) {
                case 0: case 1: {
                    int k = kind();
                    check("opens(" + c + ", " + k + ")", real.opens(c, k), model.opens(c, k));
                    break;
                }
                case 2: case 3: case 4:
                    check("goes(" + c + ")", real.goes(c), model.goes(c));
                    checkRow();
                    break;
                case 5: {
                    int n = r(3) == 0 ? place(0) : near(4);
                    check("skips(" + c + ", " + n + ")", real.skips(c, n), model.skips(c, n));
                    break;
                }
                case 6: {
                    int what = near(5);
                    int v = r(3) == 0 ? near(31) : r(6);
                    check("heard(" + what + ", " + v + ")", real.heard(what, v), model.heard(what, v));
                    break;
                }
                case 7:
                    if (r(3) == 0) {
                        check("forget()", real.forget(), model.forget());
                    }
                    break;
                case 8:
                    if (r(3) == 0) {
                        int seed = random.nextInt();
                        int n = r(4) == 0 ? near(42) : 1 + r(5);
                        check("years(" + seed + ", " + n + ")", real.years(seed, n), model.years(seed, n));
                        checkRow();
                    }
                    break;
                case 9: {
                    int i = near(2);
                    check("keep(" + i + ")", real.keep(i), model.keep(i));
                    break;
                }
                case 10:
                    if (r(4) == 0) {
                        int i = near(2);
                        check("again(" + i + ")", real.again(i), model.again(i));
                    }
                    break;
                case 11:
                    check("undo()", real.undo(), model.undo());
                    break;
                case 12: {
                    int k = near(4);
                    int n = r(4) == 0 ? near(14) : r(13);
                    int f = r(4) == 0 ? random.nextInt() : r(400) - 100;
                    int s = r(4) == 0 ? random.nextInt() : r(60) - 20;
                    check("sheet(" + k + ", " + n + ", " + f + ", " + s + ")",
                            real.sheet(k, n, f, s), model.sheet(k, n, f, s));
                    break;
                }
                default: {
                    int x = near(4);
                    int p = near(6);
                    check("number(" + x + ", " + p + ")", realNumber(x, p), model.numberOrThrow(x, p));
                    int i = near(12);
                    int w = near(3);
                    check("edge(" + i + ", " + w + ")", realEdge(i, w), model.edgeOrThrow(i, w));
                    break;
                }
            }
        }
    }

    /** What undo() brings back. */
    private static final class World {
        List<List<Integer>> lists = new ArrayList<>();
        List<int[]> edges = new ArrayList<>();
        int[][] table = new int[5][5];
        int size = 0;
        int picked = 0;
        int one = 0;
        int other = 1;

        World() {
            for (int i = 0; i < 4; i++) {
                lists.add(new ArrayList<>());
            }
        }

        World copy() {
            World w = new World();
            for (int i = 0; i < 4; i++) {
                w.lists.get(i).addAll(lists.get(i));
                }
            for (int[] e : edges) {
                w.edges.add(e.clone());
            }
            for (int i = 0; i < 5; i++) {
                w.table[i] = table[i].clone();
            }
            w.size = size;
            w.picked = picked;
            w.one = one;
            w.other = other;
            return w;
        }

        int[] edgeBetween(int a, int b) {
            for (int[] e : edges) {
                if (e[0] == Math.min(a, b) && e[1] == Math.max(a, b)) {
                    return e;
                }
            }
            return null;
        }
    }

    private static final class Fault extends RuntimeException {
        private static final long serialVersionUID = 1L;
        final int at;

        Fault(int at) {
            super(null, null, false, false);
            this.at = at;
        }
    }

    /** A rule read and worked out in one go, from left to right. */
    private static final class Reader {
        final String text;
        final List<Integer> chosen;
        int p = 0;
        int depth = 0;

        Reader(String text, List<Integer> chosen) {
            this.text = text;
            this.chosen = chosen;
        }

        static int work(String whole, List<Integer> chosen) {
            if (whole.isEmpty()) {
                return work("s", chosen);
            }
            String cut = whole.length() > 40 ? whole.substring(0, 40) : whole;
            Reader reader = new Reader(cut, chosen);
            int v = reader.expression();
            if (reader.p < cut.length()) {
                throw new Fault(reader.p);
            }
            if (whole.length() > 40) {
                throw new Fault(40);
            }
            return v;
        }

        char peek() {
            return p < text.length() ? text.charAt(p) : '\uffff';
        }

        int expression() {
            int left = sum();
            char c = peek();
            if (c != '<' && c != '>' && c != '=') {
                return left;
            }
            p++;
            int right = sum();
            return (c == '<' ? left < right : c == '>' ? left > right : left == right) ? 1 : 0;
        }

        int sum() {
            int v = product();
            while (peek() == '+' || peek() == '-') {
                char c = text.charAt(p++);
                int w = product();
                v = c == '+' ? v + w : v - w;
            }
            return v;
        }

        int product() {
            int v = signed();
            while (peek() == '*' || peek() == '/') {
                char c = text.charAt(p++);
                int w = signed();
                v = c == '*' ? v * w : w == 0 ? 0 : v / w;
            }
            return v;
        }

        int signed() {
            if (peek() == '-') {
                p++;
                return -signed();
            }
            return thing();
        }

        int thing() {
            char c = peek();
            if (c >= '0' && c <= '9') {
                int from = p;
                while (p < from + 3 && peek() >= '0' && peek() <= '9') {
                    p++;
                }
                return Integer.parseInt(text.substring(from, p));
            }
            if (c == '(') {
                if (depth == 4) {
                    throw new Fault(p);
                }
                depth++;
                p++;
                int v = expression();
                if (peek() != ')') {
                    throw new Fault(p);
                }
                p++;
                depth--;
                return v;
            }
            if (c > 255 || "smlfepn".indexOf(c) < 0) {
                throw new Fault(p);
            }
            p++;
            return letter(c);
        }

        int letter(char c) {
            int n = chosen.size();
            switch (c) {
                case 's': return chosen.stream().mapToInt(i -> i).sum();
                case 'm': return n == 0 ? 0 : Collections.max(chosen);
                case 'l': return n == 0 ? 0 : Collections.min(chosen);
                case 'f': return n == 0 ? 0 : chosen.get(0);
                case 'e': return n == 0 ? 0 : chosen.get(n - 1);
                case 'p': return chosen.stream().mapToInt(i -> i).reduce(1, (a, b) -> a * b);
                default: return n;
            }
        }
    }

    private static final class Item {
        final int[] row;
        final long cost;

        Item(int[] row, long cost) {
            this.row = row;
            this.cost = cost;
        }
    }

    /** The document, told once more without haste. */
    private static final class Model {
        World world = new World();
        final List<World> undos = new ArrayList<>();
        final World[] kept = new World[2];
        String text = "";
        String rule = "";
        List<Long> row = new ArrayList<>();
        final List<int[]> clues = new ArrayList<>();
        final int[] cursorKind = {-1, -1, -1};
        final int[] cursorAt = new int[3];
        final boolean[] stale = new boolean[3];

        static boolean in(int v, int from, int to) {
            return from <= v && v <= to;
        }

        void told(long... numbers) {
            row = new ArrayList<>();
            for (long v : numbers) {
                row.add(v);
            }
        }

        void change() {
            Arrays.fill(stale, true);
        }

        void done(World before) {
            undos.add(before);
            if (undos.size() > 10) {
                undos.remove(0);
            }
            change();
        }

        int act(int answer, World before) {
            if (answer >= 0) {
                done(before);
            }
            return answer;
        }

        String readText() {
            String s = text;
            text = "";
            return s;
        }

        int sign(int v) {
            if (text.length() > 76) {
                return -1;
            }
            text += "" + (char) (v >>> 24) + (char) (v >>> 16 & 255) + (char) (v >>> 8 & 255) + (char) (v & 255);
            return text.length();
        }

        boolean end(int n) {
            if (!in(n, 0, text.length())) {
                return false;
            }
            text = text.substring(0, n);
            return true;
        }

        int lists(int x) {
            String s = readText();
            List<Integer> numbers = new ArrayList<>();
            int p = 0;
            // 0: a number is due, 1: one digit stood, 2: two digits stood
            int stands = 0;
            for (; p < s.length(); p++) {
                char c = s.charAt(p);
                if (c >= '0' && c <= '9' && stands < 2) {
                    if (stands == 0) {
                        if (numbers.size() == 6) {
                            return -1 - p;
                        }
                        numbers.add(c - '0');
                    } else {
                        numbers.add(numbers.remove(numbers.size() - 1) * 10 + c - '0');
                    }
                    stands++;
                } else if (c == ',' && stands > 0) {
                    stands = 0;
                } else {
                    return -1 - p;
                }
            }
            if (stands == 0 && !s.isEmpty()) {
                return -1 - p;
            }
            if (!in(x, 0, 3)) {
                return -1;
            }
            World before = world.copy();
            Collections.sort(numbers);
            world.lists.set(x, numbers);
            return act(numbers.size(), before);
        }

        int rule() {
            String s = readText();
            try {
                Reader.work(s, new ArrayList<>());
            } catch (Fault f) {
                return -1 - f.at;
            }
            rule = s;
            change();
            return 0;
        }

        Object numberOrThrow(int x, int place) {
            if (!in(x, 0, 3) || !in(place, 0, world.lists.get(x).size() - 1)) {
                return "throws";
            }
            return world.lists.get(x).get(place);
        }

        Object edgeOrThrow(int i, int what) {
            if (!in(i, 0, world.edges.size() - 1) || !in(what, 0, 2)) {
                return "throws";
            }
            return world.edges.get(i)[what];
        }

        int sheet(int kind, int n, int f, int step) {
            if (!in(kind, 0, 3) || n > 12) {
                return -1;
            }
            if (n < 0 && kind < 3) {
                return -2;
            }
            int sum = 0;
            int v = f;
            for (int i = 0; i < world.edges.size(); i++) {
                int told = kind == 0 ? (byte) v : kind == 1 ? (short) v : v;
                int w = kind == 3 || i >= n ? 1 : told < 1 ? 1 : told > 99 ? 99 : told;
                world.edges.get(i)[2] = w;
                sum += w;
                v += step;
            }
            change();
            return kind == 3 ? -3 : sum;
        }

        int doPut(int x, int v) {
            if (!in(x, 0, 3) || !in(v, 0, 99)) {
                return -1;
            }
            List<Integer> list = world.lists.get(x);
            if (list.size() == 6) {
                return -2;
            }
            list.add(v);
            Collections.sort(list);
            return list.lastIndexOf(v);
        }

        int doTake(int x, int place) {
            return numberOrThrow(x, place).equals("throws") ? -1 : world.lists.get(x).remove(place);
        }

        int doJoin(int a, int b, int w) {
            if (!in(a, 0, 6) || !in(b, 0, 6) || a == b || !in(w, 0, 99)) {
                return -1;
            }
            int[] e = world.edgeBetween(a, b);
            if (e == null && w == 0) {
                return -2;
            }
            if (e == null && world.edges.size() == 12) {
                return -3;
            }
            world.edges.remove(e);
            if (w > 0) {
                world.edges.add(new int[] {Math.min(a, b), Math.max(a, b), w});
                world.edges.sort(Comparator.comparingInt(x -> x[0] * 10 + x[1]));
            }
            return world.edges.size();
        }

        int doCost(int p, int j, int v) {
            if (!in(p, 0, 4) || !in(j, 0, 4) || !in(v, 0, 99)) {
                return -1;
            }
            int was = world.table[p][j];
            world.table[p][j] = v;
            return was;
        }

        int doSet(int what, int v) {
            if (what == 0 && in(v, 0, 5)) {
                int was = world.size;
                world.size = v;
                return was == v ? -2 : 10 + was;
            }
            if (what == 1 && in(v, 0, 3)) {
                int was = world.picked;
                world.picked = v;
                return was == v ? -2 : 10 + was;
            }
            return -1;
        }

        int doEnds(int a, int b) {
            if (!in(a, 0, 6) || !in(b, 0, 6) || a == b) {
                return -1;
            }
            int were = count(4);
            world.one = a;
            world.other = b;
            return were;
        }

        int puts(int x, int v) {
            World before = world.copy();
            return act(doPut(x, v), before);
        }

        int takes(int x, int place) {
            World before = world.copy();
            return act(doTake(x, place), before);
        }

        int joins(int a, int b, int w) {
            World before = world.copy();
            return act(doJoin(a, b, w), before);
        }

        int costs(int p, int j, int v) {
            World before = world.copy();
            return act(doCost(p, j, v), before);
        }

        int sets(int what, int v) {
            World before = world.copy();
            return act(doSet(what, v), before);
        }

        int ends(int a, int b) {
            World before = world.copy();
            return act(doEnds(a, b), before);
        }

        static boolean startsAct(String s) {
            return s.matches("|p|p[0-3]|p[0-3]\\d|t|t[0-3]|j|j[a-g]|j[a-g][a-g]|j[a-g][a-g]\\d"
                    + "|c|c[0-4]|c[0-4][0-4]|c[0-4][0-4]\\d|z|k|e|e[a-g]");
        }

        static boolean isAct(String s) {
            return s.matches("p[0-3]\\d\\d|t[0-3]\\d|j[a-g][a-g]\\d\\d|c[0-4][0-4]\\d\\d|z\\d|k\\d|e[a-g][a-g]");
        }

        int day() {
            String s = readText();
            List<String> acts = new ArrayList<>();
            String open = "";
            for (int p = 0; p < s.length(); p++) {
                if (p == 60) {
                    return -61;
                }
                open += s.charAt(p);
                if (isAct(open)) {
                    acts.add(open);
                    open = "";
                } else if (!startsAct(open)) {
                    return -1 - p;
                }
            }
            if (!open.isEmpty()) {
                return -1 - s.length();
            }
            World before = world.copy();
            int done = 0;
            for (String a : acts) {
                if (doAct(a) < 0) {
                    break;
                }
                done++;
            }
            if (done > 0) {
                done(before);
            }
            told(done < acts.size() ? 1 : 0);
            return done;
        }

        int doAct(String a) {
            int one = a.charAt(1) >= 'a' ? a.charAt(1) - 'a' : a.charAt(1) - '0';
            int other = a.length() < 3 ? 0 : a.charAt(2) >= 'a' ? a.charAt(2) - 'a' : a.charAt(2) - '0';
            int last = a.length() < 4 ? 0 : Integer.parseInt(a.substring(a.length() - 2));
            switch (a.charAt(0)) {
                case 'p': return doPut(one, last);
                case 't': return doTake(one, other);
                case 'j': return doJoin(one, other, last);
                case 'c': return doCost(one, other, last);
                case 'z': return doSet(0, one);
                case 'k': return doSet(1, one);
                default: return doEnds(one, other);
            }
        }

        int undo() {
            if (undos.isEmpty()) {
                return -1;
            }
            world = undos.remove(undos.size() - 1);
            change();
            return undos.size();
        }

        // ---- all of a kind

        List<int[]> rows(int kind) {
            List<int[]> rows = new ArrayList<>();
            for (Item item : items(kind)) {
                rows.add(item.row);
            }
            return rows;
        }

        List<Item> items(int kind) {
            List<Item> all = new ArrayList<>();
            if (kind == 0) {
                choices(all);
            } else if (kind == 1) {
                trees(all);
            } else if (kind == 2) {
                pairings(all, new ArrayList<>());
            } else if (kind == 3) {
                subsets(all);
            } else {
                List<Integer> start = new ArrayList<>();
                start.add(world.one);
                routes(all, start);
            }
            all.sort((a, b) -> a.cost != b.cost ? Long.compare(a.cost, b.cost) : Arrays.compare(a.row, b.row));
            return all;
        }

        static int[] array(List<Integer> list) {
            return list.stream().mapToInt(i -> i).toArray();
        }

        List<Integer> numbersOf(int[] row) {
            List<Integer> chosen = new ArrayList<>();
            int at = 0;
            for (List<Integer> list : world.lists) {
                if (!list.isEmpty()) {
                    chosen.add(list.get(row[at++]));
                }
            }
            return chosen;
        }

        void choices(List<Item> all) {
            List<List<Integer>> rows = new ArrayList<>();
            rows.add(new ArrayList<>());
            for (List<Integer> list : world.lists) {
                if (list.isEmpty()) {
                    continue;
                }
                List<List<Integer>> longer = new ArrayList<>();
                for (List<Integer> start : rows) {
                    for (int i = 0; i < list.size(); i++) {
                        List<Integer> next = new ArrayList<>(start);
                        next.add(i);
                        longer.add(next);
                    }
                }
                rows = longer;
            }
            for (List<Integer> r : rows) {
                int[] a = array(r);
                all.add(new Item(a, Reader.work(rule, numbersOf(a))));
            }
        }

        void trees(List<Item> all) {
            int n = world.edges.size();
            int nodes = Integer.bitCount(count(9));
            for (int set = 0; set < 1 << n; set++) {
                if (Integer.bitCount(set) != Math.max(0, nodes - 1)) {
                    continue;
                }
                int reached = n == 0 ? 0 : 1 << world.edges.get(0)[0];
                List<Integer> r = new ArrayList<>();
                long cost = 0;
                for (int round = 0; round < 8; round++) {
                    for (int i = 0; i < n; i++) {
                        int[] e = world.edges.get(i);
                        int both = 1 << e[0] | 1 << e[1];
                        if ((set >> i & 1) == 1 && (reached & both) != 0) {
                            reached |= both;
                        }
                    }
                }
                for (int i = 0; i < n; i++) {
                    if ((set >> i & 1) == 1) {
                        r.add(i);
                        cost += world.edges.get(i)[2];
                    }
                }
                if (reached == count(9)) {
                    all.add(new Item(array(r), cost));
                }
            }
        }

        void pairings(List<Item> all, List<Integer> jobs) {
            if (jobs.size() == world.size) {
                long cost = 0;
                for (int i = 0; i < jobs.size(); i++) {
                    cost += world.table[i][jobs.get(i)];
                }
                all.add(new Item(array(jobs), cost));
                return;
            }
            for (int j = 0; j < world.size; j++) {
                if (!jobs.contains(j)) {
                    List<Integer> longer = new ArrayList<>(jobs);
                    longer.add(j);
                    pairings(all, longer);
                }
            }
        }

        void subsets(List<Item> all) {
            List<Integer> list = world.lists.get(world.picked);
            for (int set = 0; set < 1 << list.size(); set++) {
                List<Integer> r = new ArrayList<>();
                long cost = 0;
                for (int i = 0; i < list.size(); i++) {
                    if ((set >> i & 1) == 1) {
                        r.add(i);
                        cost += list.get(i);
                    }
                }
                all.add(new Item(array(r), cost));
            }
        }

        void routes(List<Item> all, List<Integer> way) {
            int at = way.get(way.size() - 1);
            if (at == world.other) {
                long cost = 0;
                for (int i = 1; i < way.size(); i++) {
                    cost += world.edgeBetween(way.get(i - 1), way.get(i))[2];
                }
                all.add(new Item(array(way), cost));
                return;
            }
            for (int next = 0; next < 7; next++) {
                if (!way.contains(next) && world.edgeBetween(at, next) != null) {
                    List<Integer> longer = new ArrayList<>(way);
                    longer.add(next);
                    routes(all, longer);
                }
            }
        }

        // ---- in order

        int tell(Item item) {
            row = new ArrayList<>();
            row.add(item.cost);
            for (int v : item.row) {
                row.add((long) v);
            }
            return item.row.length;
        }

        int best(int kind, int k) {
            if (!in(kind, 0, 4) || !in(k, 1, 400)) {
                return -1;
            }
            List<Item> all = items(kind);
            return k > all.size() ? -2 : tell(all.get(k - 1));
        }

        int many(int kind) {
            if (!in(kind, 0, 4)) {
                return -1;
            }
            List<Item> all = items(kind);
            told();
            if (!all.isEmpty()) {
                long least = all.get(0).cost;
                told(least, all.stream().filter(i -> i.cost == least).count(), all.get(all.size() - 1).cost);
            }
            return all.size();
        }

        int below(int kind, int c) {
            if (!in(kind, 0, 4)) {
                return -1;
            }
            long[] cheap = items(kind).stream().mapToLong(i -> i.cost).filter(x -> x <= c).toArray();
            told();
            if (cheap.length > 0) {
                told(cheap[cheap.length - 1]);
            }
            return cheap.length;
        }

        int rank(int kind) {
            String s = readText();
            int[] wanted = new int[s.length()];
            for (int p = 0; p < s.length(); p++) {
                if (p == 8 || !in(s.charAt(p), 'a', 'l')) {
                    return -1 - p;
                }
                wanted[p] = s.charAt(p) - 'a';
            }
            if (!in(kind, 0, 4)) {
                return -101;
            }
            List<Item> all = items(kind);
            for (int i = 0; i < all.size(); i++) {
                if (Arrays.equals(all.get(i).row, wanted)) {
                    told(all.get(i).cost);
                    return i + 1;
                }
            }
            return -100;
        }

        int alike(int kind, int k) {
            if (!in(kind, 0, 4) || !in(k, 1, 400)) {
                return -1;
            }
            List<Item> all = items(kind);
            if (k > all.size()) {
                return -2;
            }
            List<Long> places = new ArrayList<>();
            for (int i = 0; i < all.size(); i++) {
                if (all.get(i).cost == all.get(k - 1).cost) {
                    places.add(i + 1L);
                }
            }
            told(places.get(0), places.get(places.size() - 1));
            return places.size();
        }

        int surely(int kind) {
            if (!in(kind, 0, 4)) {
                return -1;
            }
            List<Item> all = items(kind);
            if (all.isEmpty()) {
                return -2;
            }
            int bits = 0;
            for (int p = 0; p < 8; p++) {
                TreeSet<Integer> seen = new TreeSet<>();
                for (Item item : all) {
                    if (item.cost == all.get(0).cost) {
                        seen.add(p < item.row.length ? item.row[p] : -1);
                    }
                }
                if (seen.size() == 1 && seen.first() >= 0) {
                    bits += 1 << p;
                }
            }
            told(Integer.bitCount(bits));
            return bits;
        }

        int having(int kind, int i, int v, int is) {
            if (!in(kind, 0, 4) || !in(i, 0, 7) || !in(v, 0, 11) || !in(is, 0, 1)) {
                return -1;
            }
            int n = 0;
            List<Item> all = items(kind);
            told();
            for (int k = 0; k < all.size(); k++) {
                int[] r = all.get(k).row;
                boolean has = i < r.length && r[i] == v;
                if (has == (is == 1)) {
                    if (n++ == 0) {
                        told(k + 1, all.get(k).cost);
                    }
                }
            }
            return n;
        }

        int differ(int kind, int a, int b) {
            if (!in(kind, 0, 4) || !in(a, 1, 400) || !in(b, 1, 400)) {
                return -1;
            }
            List<Item> all = items(kind);
            if (Math.max(a, b) > all.size()) {
                return -2;
            }
            int[] x = all.get(a - 1).row;
            int[] y = all.get(b - 1).row;
            int n = 0;
            told();
            for (int p = 0; p < Math.max(x.length, y.length); p++) {
                if (p >= x.length || p >= y.length || x[p] != y[p]) {
                    if (n++ == 0) {
                        told(p);
                    }
                }
            }
            return n;
        }

        int gap(int kind, int k) {
            if (!in(kind, 0, 4) || !in(k, 1, 399)) {
                return -1;
            }
            List<Item> all = items(kind);
            if (k + 1 > all.size()) {
                return -2;
            }
            told(all.get(k).cost - all.get(k - 1).cost);
            return 0;
        }

        // ---- cursors

        int opens(int c, int kind) {
            if (!in(c, 0, 2) || !in(kind, 0, 4)) {
                return -1;
            }
            cursorKind[c] = kind;
            cursorAt[c] = 0;
            stale[c] = false;
            return items(kind).size();
        }

        int goes(int c) {
            if (!in(c, 0, 2)) {
                return -1;
            }
            if (cursorKind[c] < 0) {
                return -3;
            }
            if (stale[c]) {
                return -4;
            }
            List<Item> all = items(cursorKind[c]);
            return cursorAt[c] == all.size() ? -2 : tell(all.get(cursorAt[c]++));
        }

        int skips(int c, int n) {
            if (!in(c, 0, 2) || !in(n, 0, 400)) {
                return -1;
            }
            if (cursorKind[c] < 0) {
                return -3;
            }
            if (stale[c]) {
                return -4;
            }
            int all = items(cursorKind[c]).size();
            cursorAt[c] = Math.min(all, cursorAt[c] + n);
            return all - cursorAt[c];
        }

        // ---- which one it was

        static final int[] GREATEST = {30, 11, 11, 8, 11};

        int heard(int what, int v) {
            if (!in(what, 0, 4) || !in(v, 0, GREATEST[what]) || clues.size() == 10) {
                return -1;
            }
            clues.add(new int[] {what, v});
            return clues.size();
        }

        int forget() {
            int n = clues.size();
            clues.clear();
            return n;
        }

        static boolean isSo(Item item, int what, int v) {
            int n = item.row.length;
            switch (what) {
                case 0: return item.cost >= v * 10;
                case 1: return n > 0 && item.row[0] == v;
                case 2: return n > 0 && item.row[n - 1] == v;
                case 3: return n == v;
                default: return Arrays.stream(item.row).anyMatch(x -> x == v);
            }
        }

        boolean fit(Item item) {
            return clues.stream().allMatch(c -> isSo(item, c[0], c[1]));
        }

        int fits(int kind) {
            if (!in(kind, 0, 4)) {
                return -1;
            }
            List<Item> all = items(kind);
            int n = 0;
            told();
            for (int i = 0; i < all.size(); i++) {
                if (fit(all.get(i)) && n++ == 0) {
                    told(i + 1);
                }
            }
            return n;
        }

        int asks(int kind) {
            if (!in(kind, 0, 4)) {
                return -1;
            }
            List<Item> fitting = new ArrayList<>();
            for (Item item : items(kind)) {
                if (fit(item)) {
                    fitting.add(item);
                }
            }
            if (fitting.isEmpty()) {
                return -2;
            }
            long fewest = Long.MAX_VALUE;
            int question = 0;
            for (int what = 4; what >= 0; what--) {
                for (int v = GREATEST[what]; v >= 0; v--) {
                    final int w = what;
                    final int u = v;
                    long yes = fitting.stream().filter(i -> isSo(i, w, u)).count();
                    long most = Math.max(yes, fitting.size() - yes);
                    if (most <= fewest) {
                        fewest = most;
                        question = 100 * what + v;
                    }
                }
            }
            told(fewest);
            return question;
        }

        // ---- chances, a game

        int odds(int kind, int c, int n) {
            if (!in(kind, 0, 4) || !in(n, 1, 3)) {
                return -1;
            }
            List<Item> all = items(kind);
            if (all.isEmpty()) {
                return -2;
            }
            long good = all.stream().filter(i -> i.cost <= c).count();
            long total = all.size();
            long upper = good;
            long lower = total;
            for (int i = 1; i < n; i++) {
                // good at once, or bad and good later
                upper = good * lower + (total - good) * upper;
                lower = total * lower;
            }
            long g = java.math.BigInteger.valueOf(upper).gcd(java.math.BigInteger.valueOf(lower)).longValue();
            told(upper / g, lower / g);
            return 0;
        }

        static int play(List<Integer> list, int sign) {
            if (list.isEmpty()) {
                return 0;
            }
            int a = sign * list.get(0) + play(list.subList(1, list.size()), -sign);
            int b = sign * list.get(list.size() - 1) + play(list.subList(0, list.size() - 1), -sign);
            return sign > 0 ? Math.max(a, b) : Math.min(a, b);
        }

        int duel(int x) {
            if (!in(x, 0, 3)) {
                return -1;
            }
            List<Integer> list = world.lists.get(x);
            told();
            if (list.isEmpty()) {
                return 1000;
            }
            int n = list.size();
            int all = play(list, 1);
            told(list.get(0) + play(list.subList(1, n), -1) == all ? 0 : 1);
            return 1000 + all;
        }

        // ---- rules, changes

        int law() {
            String s = readText();
            try {
                Reader.work(s, new ArrayList<>());
            } catch (Fault f) {
                return -10000 - f.at;
            }
            List<Item> mine = items(0);
            List<Item> other = new ArrayList<>();
            for (Item item : mine) {
                other.add(new Item(item.row, Reader.work(s, numbersOf(item.row))));
            }
            Item first = other.stream().min((a, b) -> a.cost != b.cost ? Long.compare(a.cost, b.cost)
                    : Arrays.compare(a.row, b.row)).get();
            int place = other.indexOf(first);
            told(first.cost, mine.get(place).cost);
            return place + 1;
        }

        long drawn;

        int draw(int n) {
            drawn = (drawn * 1103515245L + 12345L) & 0xffffffffL;
            return (int) (drawn / 65536 % n);
        }

        int years(int seed, int n) {
            if (!in(n, 1, 40)) {
                return -1;
            }
            drawn = seed & 0xffffffffL;
            for (int i = 0; i < n; i++) {
                int what = draw(4);
                int a = draw(what < 2 ? 4 : what == 2 ? 7 : 5);
                int b = draw(what == 0 ? 100 : what == 1 ? 6 : what == 2 ? 7 : 5);
                if (what == 0) {
                    puts(a, b);
                } else if (what == 1) {
                    takes(a, b);
                } else if (what == 2) {
                    joins(a, b, draw(99) + 1);
                } else {
                    costs(a, b, draw(100));
                }
            }
            told(items(1).size(), items(4).size(), items(2).get(0).cost);
            return items(0).size();
        }

        // ---- kept

        boolean keep(int i) {
            if (!in(i, 0, 1)) {
                return false;
            }
            kept[i] = world.copy();
            return true;
        }

        boolean again(int i) {
            if (!in(i, 0, 1) || kept[i] == null) {
                return false;
            }
            world = kept[i].copy();
            undos.clear();
            change();
            return true;
        }

        int count(int what) {
            switch (what) {
                case 0: return world.lists.stream().mapToInt(List::size).sum();
                case 1: return world.edges.size();
                case 2: return world.size;
                case 3: return world.picked;
                case 4: return 10 * world.one + world.other;
                case 5: return clues.size();
                case 6: return undos.size();
                case 7: return row.size();
                case 8: return text.length();
                case 9: return world.edges.stream().mapToInt(e -> 1 << e[0] | 1 << e[1]).reduce(0, (a, b) -> a | b);
                default: return -1;
            }
        }
    }
}

import java.util.Arrays;
import java.util.NoSuchElementException;

/** For each promise of the document ordinary inputs, the edges that it names, and wrong inputs. */
public final class PromiseTests {
    private static int wrong = 0;
    private static int promise = 0;

    public static void main(String[] args) {
        newObject();
        signs();
        endOfText();
        listTexts();
        ruleTexts();
        ruleCosts();
        numbers();
        edges();
        sheets();
        putting();
        taking();
        joining();
        tableCosts();
        setting();
        twoEnds();
        days();
        undoing();
        bestOnes();
        orderOfTrees();
        orderOfRoutes();
        howMany();
        cheapOnes();
        ranks();
        alikeOnes();
        sureOnes();
        havingOnes();
        differences();
        gaps();
        openings();
        goings();
        skippings();
        hearing();
        forgetting();
        fitting();
        asking();
        chances();
        duels();
        laws();
        yearsGoBy();
        keeping();
        againAsKept();
        counts();
        rows();
        refusalsLeaveTheRow();
        System.out.println(wrong == 0 ? "promises: all answers are as due" : "promises: " + wrong + " answers are not as due");
        if (wrong != 0) {
            System.exit(1);
        }
    }

    // ---- helpers

    private static void is(String what, long got, long due) {
        if (got != due) {
            wrong++;
            System.out.println("promise " + promise + ": " + what + " answered " + got + ", due is " + due);
        }
    }

    private static void is(String what, boolean got, boolean due) {
        is(what, got ? 1 : 0, due ? 1 : 0);
    }

    private static void rowIs(String what, BestWalks w, long... due) {
        long[] got = new long[w.count(7)];
        for (int i = 0; i < got.length; i++) {
            got[i] = w.row(i);
        }
        if (!Arrays.equals(got, due)) {
            wrong++;
            System.out.println("promise " + promise + ": the ROW behind " + what + " is " + Arrays.toString(got)
                    + ", due is " + Arrays.toString(due));
        }
    }

    private static BestWalks tell(BestWalks w, String text) {
        w.end(0);
        for (int i = 0; i < text.length(); i += 4) {
            int v = 0;
            for (int j = 0; j < 4; j++) {
                v = v << 8 | (i + j < text.length() ? text.charAt(i + j) : 0);
            }
            w.sign(v);
        }
        is("end(" + text.length() + ") of a told text", w.end(text.length()), true);
        return w;
    }

    private static BestWalks withLists(String... lists) {
        BestWalks w = new BestWalks();
        for (int x = 0; x < lists.length; x++) {
            tell(w, lists[x]).lists(x);
        }
        return w;
    }

    private static BestWalks withDay(String text) {
        BestWalks w = new BestWalks();
        tell(w, text).day();
        return w;
    }

    private static int rule(BestWalks w, String text) {
        return tell(w, text).rule();
    }

    private static int rank(BestWalks w, int kind, String text) {
        return tell(w, text).rank(kind);
    }

    private static int law(BestWalks w, String text) {
        return tell(w, text).law();
    }

    private static int day(BestWalks w, String text) {
        return tell(w, text).day();
    }

    private static int list(BestWalks w, int x, String text) {
        return tell(w, text).lists(x);
    }

    private static String times(String s, int n) {
        return s.repeat(n);
    }

    private static boolean numberThrows(BestWalks w, int x, int place) {
        try {
            w.number(x, place);
            return false;
        } catch (NoSuchElementException e) {
            return true;
        }
    }

    private static boolean edgeThrows(BestWalks w, int i, int what) {
        try {
            w.edge(i, what);
            return false;
        } catch (NoSuchElementException e) {
            return true;
        }
    }

    private static boolean rowThrows(BestWalks w, int i) {
        try {
            w.row(i);
            return false;
        } catch (NoSuchElementException e) {
            return true;
        }
    }

    /** A triangle a, b, c with a way on to d: weights 4, 5, 3, 1. */
    private static BestWalks triangle() {
        return withDay("jab04jac05jbc03jcd01");
    }

    // ---- the promises

    private static void newObject() {
        promise = 1;
        BestWalks w = new BestWalks();
        int[] due = {0, 0, 0, 0, 1, 0, 0, 0, 0, 0};
        for (int what = 0; what < 10; what++) {
            is("count(" + what + ")", w.count(what), due[what]);
        }
        is("NONE", BestWalks.NONE, -1);
        is("goes(0)", w.goes(0), -3);
        is("again(0)", w.again(0), false);
        is("costs(4, 4, 1)", w.costs(4, 4, 1), 0);
    }

    private static void signs() {
        promise = 2;
        BestWalks w = new BestWalks();
        for (int i = 1; i <= 20; i++) {
            is("sign", w.sign(0x61616161), 4 * i);
        }
        is("sign of a full text", w.sign(0), -1);
        is("count(8)", w.count(8), 80);
        w.end(77);
        is("sign behind 77", w.sign(0), -1);
        is("count(8)", w.count(8), 77);
        w.end(76);
        is("sign behind 76", w.sign(0), 80);
        BestWalks v = new BestWalks();
        v.sign('3' << 24 | '4' << 16 | ',' << 8 | '1');
        is("the highest byte is the first sign", v.lists(0), 2);
        is("number", v.number(0, 0), 1);
        is("number", v.number(0, 1), 34);
        BestWalks u = new BestWalks();
        u.sign(0x80000000);
        u.end(1);
        is("a sign above 127", u.lists(0), -1);
    }

    private static void endOfText() {
        promise = 3;
        BestWalks w = new BestWalks();
        is("end(0)", w.end(0), true);
        is("end(1)", w.end(1), false);
        w.sign(0x31323334);
        is("end(-1)", w.end(-1), false);
        is("end(5)", w.end(5), false);
        is("count(8)", w.count(8), 4);
        is("end(4)", w.end(4), true);
        is("end(2)", w.end(2), true);
        is("lists(0)", w.lists(0), 1);
        is("number(0, 0)", w.number(0, 0), 12);
        is("a text that was read is empty", w.end(1), false);
    }

    private static void listTexts() {
        promise = 4;
        BestWalks w = new BestWalks();
        is("7,3,99,0", list(w, 2, "7,3,99,0"), 4);
        is("rising", w.number(2, 0) * 1000000 + w.number(2, 1) * 10000 + w.number(2, 2) * 100 + w.number(2, 3), 30799);
        is("05", list(w, 2, "05"), 1);
        is("number", w.number(2, 0), 5);
        is("six", list(w, 3, "1,1,1,1,1,1"), 6);
        is("seven", list(w, 3, "1,1,1,1,1,1,1"), -13);
        is("a comma behind six", list(w, 3, "1,1,1,1,1,1,"), -13);
        is("seven of two digits", list(w, 3, "11,11,11,11,11,11,11"), -19);
        is("three digits", list(w, 3, "1,234"), -5);
        is("ends behind a comma", list(w, 3, "12,"), -4);
        is("two commas", list(w, 3, "1,,2"), -3);
        is("a first comma", list(w, 3, ",1"), -1);
        is("a blank", list(w, 3, "1 "), -2);
        is("refused ones change nothing", w.count(0), 7);
        is("the text is asked ahead of x", list(w, 4, "1;"), -2);
        is("another x", list(w, 4, "1"), -1);
        is("another x", list(w, -1, ""), -1);
        is("the text is empty then", w.count(8), 0);
        is("an empty one", list(w, 3, ""), 0);
        is("count(0)", w.count(0), 1);
        is("done ones can be undone, refused ones not", w.count(6), 4);
    }

    private static void ruleTexts() {
        promise = 5;
        BestWalks w = new BestWalks();
        String[] sound = {"", "s", "123", "-s", "---5", "(s)", "((((s))))", "s<m", "(s<m)<l", "s<(m<l)", "s--m", "s*-m",
            "1+2*3/4-5", "(((1)))+((((2))))", "n=0", "000", "-(-s)"};
        for (String s : sound) {
            is("rule " + s, rule(w, s), 0);
        }
        is("1000", rule(w, "1000"), -4);
        is("s<m<l", rule(w, "s<m<l"), -4);
        is("s<m=l", rule(w, "s<m=l"), -4);
        is("(s<m>l)", rule(w, "(s<m>l)"), -5);
        is("five brackets", rule(w, "(((((s)))))"), -5);
        is("s)", rule(w, "s)"), -2);
        is("()", rule(w, "()"), -2);
        is("(s", rule(w, "(s"), -3);
        is("ss", rule(w, "ss"), -2);
        is("2s", rule(w, "2s"), -2);
        is("s2", rule(w, "s2"), -2);
        is("s(", rule(w, "s("), -2);
        is("(s)(", rule(w, "(s)("), -4);
        is("s+", rule(w, "s+"), -3);
        is("-", rule(w, "-"), -2);
        is("+s", rule(w, "+s"), -1);
        is("s+*m", rule(w, "s+*m"), -3);
        is("s<", rule(w, "s<"), -3);
        is("a blank", rule(w, "s +m"), -2);
        is("s~m", rule(w, "s~m"), -2);
        is("~s", rule(w, "~s"), -1);
        is("S", rule(w, "S"), -1);
        is("sign 0", rule(w, "s" + (char) 0), -2);
        is("sign 255", rule(w, "s" + (char) 255), -2);
        is("40 signs", rule(w, times("-", 39) + "s"), 0);
        is("40 signs that end too early", rule(w, times("-", 40)), -41);
        is("41 signs", rule(w, times("-", 40) + "s"), -41);
        is("41 signs, whose 40 could end", rule(w, times("-", 39) + "s+"), -41);
        is("80 signs", rule(w, times("s+", 40)), -41);
        is("a fault ahead of 40 in a long one", rule(w, "s+" + times("x", 78)), -3);
        is("a number over the 40th sign", rule(w, times("-", 38) + "1234"), -41);
        is("a bracket that is open at 40", rule(w, "(" + times("-", 38) + "s)"), -41);
        is("the text is empty then", w.count(8), 0);
        is("a rule can't be undone", w.count(6), 0);
    }

    private static int costBy(String rule, String... lists) {
        BestWalks w = withLists(lists);
        is("rule " + rule, rule(w, rule), 0);
        w.best(0, 1);
        return (int) w.row(0);
    }

    private static void ruleCosts() {
        promise = 5;
        String[] three = {"7", "", "2", "5"};
        String[] rules = {"", "s", "m", "l", "f", "e", "p", "n"};
        int[] due = {14, 14, 7, 2, 7, 5, 70, 3};
        int[] dueOfNone = {0, 0, 0, 0, 0, 0, 1, 0};
        for (int i = 0; i < rules.length; i++) {
            is("cost by " + rules[i], costBy(rules[i], three), due[i]);
            is("cost of none by " + rules[i], costBy(rules[i]), dueOfNone[i]);
        }
        is("10-3-2", costBy("10-3-2"), 5);
        is("2+3*4", costBy("2+3*4"), 14);
        is("(2+3)*4", costBy("(2+3)*4"), 20);
        is("100/7/2", costBy("100/7/2"), 7);
        is("100/7*2", costBy("100/7*2"), 28);
        is("-7/2", costBy("-7/2"), -3);
        is("7/-2", costBy("7/-2"), -3);
        is("7/0", costBy("7/0"), 0);
        is("7/(s-s)+1", costBy("7/(s-s)+1", three), 1);
        is("--7", costBy("--7"), 7);
        is("---7", costBy("---7"), -7);
        is("2*-3", costBy("2*-3"), -6);
        is("2--3", costBy("2--3"), 5);
        is("1+2<4", costBy("1+2<4"), 1);
        is("4<1+2", costBy("4<1+2"), 0);
        is("3>2", costBy("3>2"), 1);
        is("3>3", costBy("3>3"), 0);
        is("3=3", costBy("3=3"), 1);
        is("3=4", costBy("3=4"), 0);
        is("5+(3=3)", costBy("5+(3=3)"), 6);
        is("-(3=3)", costBy("-(3=3)"), -1);
        is("as ints", costBy("999*999*999*999"), (int) (999L * 999 * 999 * 999));
        is("a fault leaves the rule", faultLeavesRule(), 7);
        is("the least int by -1", costBy("(1-0-2)*128*256*256*256/-1"), Integer.MIN_VALUE);
    }

    private static int faultLeavesRule() {
        BestWalks w = withLists("7", "3");
        rule(w, "m");
        rule(w, "l+");
        w.best(0, 1);
        return (int) w.row(0);
    }

    private static void numbers() {
        promise = 6;
        BestWalks w = withLists("9,4", "", "", "1");
        is("number(0, 0)", w.number(0, 0), 4);
        is("number(0, 1)", w.number(0, 1), 9);
        is("number(3, 0)", w.number(3, 0), 1);
        is("throws", numberThrows(w, 0, 2), true);
        is("throws", numberThrows(w, 0, -1), true);
        is("throws", numberThrows(w, 1, 0), true);
        is("throws", numberThrows(w, 4, 0), true);
        is("throws", numberThrows(w, -1, 0), true);
        is("throws", numberThrows(w, Integer.MAX_VALUE, Integer.MIN_VALUE), true);
    }

    private static void edges() {
        promise = 7;
        BestWalks w = withDay("jgf09jab04jca05jbc03");
        int[][] due = {{0, 1, 4}, {0, 2, 5}, {1, 2, 3}, {5, 6, 9}};
        for (int i = 0; i < 4; i++) {
            for (int what = 0; what < 3; what++) {
                is("edge(" + i + ", " + what + ")", w.edge(i, what), due[i][what]);
            }
        }
        is("throws", edgeThrows(w, 4, 0), true);
        is("throws", edgeThrows(w, -1, 0), true);
        is("throws", edgeThrows(w, 0, 3), true);
        is("throws", edgeThrows(w, 0, -1), true);
        is("throws", edgeThrows(w, Integer.MIN_VALUE, 1), true);
    }

    private static void sheets() {
        promise = 8;
        BestWalks w = triangle();
        is("bytes", w.sheet(0, 4, 126, 1), 99 + 99 + 1 + 1);
        is("bytes of big ones", w.sheet(0, 3, 300, 256), 44 * 3 + 1);
        is("shorts", w.sheet(1, 4, 65536 + 7, 1), 7 + 8 + 9 + 10);
        is("shorts", w.sheet(1, 4, 32767, 1), 99 + 1 + 1 + 1);
        is("ints", w.sheet(2, 4, 32767, 1), 4 * 99);
        is("ints that turn over", w.sheet(2, 2, Integer.MAX_VALUE, 1), 99 + 1 + 1 + 1);
        is("more entries than edges", w.sheet(2, 12, 1, 1), 10);
        is("edge", w.edge(3, 2), 4);
        is("n below 0", w.sheet(0, -1, 9, 9), -2);
        is("n below 0", w.sheet(2, Integer.MIN_VALUE, 9, 9), -2);
        is("nothing changed", w.edge(3, 2), 4);
        is("n above 12", w.sheet(0, 13, 1, 1), -1);
        is("n above 12, missing", w.sheet(3, 13, 1, 1), -1);
        is("another kind", w.sheet(4, -1, 1, 1), -1);
        is("another kind", w.sheet(-1, 1, 1, 1), -1);
        is("nothing changed", w.edge(3, 2), 4);
        is("no entries", w.sheet(1, 0, 50, 1), 4);
        is("missing", w.sheet(3, 5, 50, 1), -3);
        is("all 1", w.edge(0, 2) + w.edge(1, 2) + w.edge(2, 2) + w.edge(3, 2), 4);
        is("missing with n below 0", w.sheet(3, -5, 50, 1), -3);
        is("nothing to undo of it", w.count(6), 1);
        w.puts(0, 1);
        w.sheet(2, 4, 20, 0);
        w.undo();
        is("undo brings weights back", w.edge(0, 2), 1);
        is("no edges", new BestWalks().sheet(0, 3, 5, 5), 0);
    }

    private static void putting() {
        promise = 9;
        BestWalks w = new BestWalks();
        is("puts", w.puts(1, 50), 0);
        is("puts", w.puts(1, 20), 0);
        is("puts", w.puts(1, 50), 2);
        is("puts", w.puts(1, 20), 1);
        is("puts", w.puts(1, 0), 0);
        is("puts", w.puts(1, 99), 5);
        is("puts", w.puts(1, 5), -2);
        is("NONE first", w.puts(1, 100), -1);
        is("v", w.puts(0, -1), -1);
        is("x", w.puts(4, 5), -1);
        is("x", w.puts(-1, 5), -1);
        is("count(0)", w.count(0), 6);
        is("count(6)", w.count(6), 6);
    }

    private static void taking() {
        promise = 10;
        BestWalks w = withLists("1,2,3");
        is("takes", w.takes(0, 1), 2);
        is("takes", w.takes(0, 2), -1);
        is("takes", w.takes(0, -1), -1);
        is("takes", w.takes(1, 0), -1);
        is("takes", w.takes(4, 0), -1);
        is("takes", w.takes(-1, 0), -1);
        is("takes", w.takes(0, 1), 3);
        is("takes", w.takes(0, 0), 1);
        is("takes", w.takes(0, 0), -1);
        is("count(6)", w.count(6), 4);
        BestWalks zero = withLists("0,0,7");
        is("takes a 0", zero.takes(0, 1), 0);
        is("what is left", zero.number(0, 1), 7);
        is("takes a 0", zero.takes(0, 0), 0);
        is("takes", zero.takes(0, 0), 7);
    }

    private static void joining() {
        promise = 11;
        BestWalks w = new BestWalks();
        is("joins", w.joins(3, 1, 7), 1);
        is("joins", w.joins(1, 3, 9), 1);
        is("weight", w.edge(0, 2), 9);
        is("not there", w.joins(1, 2, 0), -2);
        is("goes", w.joins(3, 1, 0), 0);
        is("not there", w.joins(1, 3, 0), -2);
        is("like", w.joins(2, 2, 5), -1);
        is("like", w.joins(2, 2, 0), -1);
        is("w", w.joins(0, 1, 100), -1);
        is("w", w.joins(0, 1, -1), -1);
        is("node", w.joins(7, 1, 1), -1);
        is("node", w.joins(0, -1, 1), -1);
        int made = 0;
        for (int a = 0; a < 7; a++) {
            for (int b = a + 1; b < 7 && made < 12; b++) {
                made++;
                is("joins", w.joins(a, b, made), made);
            }
        }
        is("a thirteenth", w.joins(5, 6, 1), -3);
        is("a thirteenth of weight 0", w.joins(5, 6, 0), -2);
        is("NONE first", w.joins(5, 6, 100), -1);
        is("one of the twelve", w.joins(0, 1, 99), 12);
        is("one of the twelve goes", w.joins(0, 1, 0), 11);
    }

    private static void tableCosts() {
        promise = 12;
        BestWalks w = new BestWalks();
        is("costs", w.costs(4, 0, 99), 0);
        is("costs", w.costs(4, 0, 5), 99);
        is("costs", w.costs(4, 0, 5), 5);
        is("costs", w.costs(0, 4, 7), 0);
        is("person", w.costs(5, 0, 1), -1);
        is("person", w.costs(-1, 0, 1), -1);
        is("job", w.costs(0, 5, 1), -1);
        is("job", w.costs(0, -1, 1), -1);
        is("v", w.costs(0, 0, 100), -1);
        is("v", w.costs(0, 0, -1), -1);
        is("count(6)", w.count(6), 4);
    }

    private static void setting() {
        promise = 13;
        BestWalks w = new BestWalks();
        is("it is so", w.sets(0, 0), -2);
        is("sets", w.sets(0, 5), 10);
        is("sets", w.sets(0, 3), 15);
        is("size", w.sets(0, 6), -1);
        is("size", w.sets(0, -1), -1);
        is("it is so", w.sets(1, 0), -2);
        is("sets", w.sets(1, 3), 10);
        is("sets", w.sets(1, 1), 13);
        is("picked", w.sets(1, 4), -1);
        is("what", w.sets(2, 1), -1);
        is("what", w.sets(-1, 1), -1);
        is("SIZE, PICKED", 10 * w.count(2) + w.count(3), 31);
        is("count(6)", w.count(6), 4);
    }

    private static void twoEnds() {
        promise = 14;
        BestWalks w = new BestWalks();
        is("ends", w.ends(6, 2), 1);
        is("ends", w.ends(2, 6), 62);
        is("the same again", w.ends(2, 6), 26);
        is("like", w.ends(3, 3), -1);
        is("node", w.ends(7, 3), -1);
        is("node", w.ends(3, -1), -1);
        is("count(4)", w.count(4), 26);
        is("count(6)", w.count(6), 3);
    }

    private static void days() {
        promise = 15;
        BestWalks w = new BestWalks();
        is("all acts", day(w, "p399jga07c4208z4k3egbt30"), 7);
        rowIs("day()", w, 0);
        is("count(0)", w.count(0), 0);
        is("edge", w.edge(0, 2), 7);
        is("costs", w.costs(4, 2, 0), 8);
        is("SIZE, PICKED, ENDS", 1000 * w.count(2) + 100 * w.count(3) + w.count(4), 4361);
        is("as one", w.count(6), 2);
        is("stops", day(w, "p011t09p022"), 1);
        rowIs("day()", w, 1);
        is("the second was the last", w.count(0), 1);
        is("the first one can't be", day(w, "jaa05p011"), 0);
        rowIs("day()", w, 1);
        is("nothing was done", w.count(6), 3);
        is("jab00 that is not there", day(w, "jab00"), 0);
        is("z4 is so", day(w, "z4"), 0);
        is("k9", day(w, "k9"), 0);
        is("empty", day(w, ""), 0);
        rowIs("an empty day()", w, 0);
        is("empty ones can't be undone", w.count(6), 3);
        rowFaults(w);
        dayLengths();
    }

    private static void rowFaults(BestWalks w) {
        w.many(2);
        int row = w.count(7);
        String[] texts = {"x", "p011x", "p4", "t4", "c5", "c05", "jh", "jah", "ea", "eah", "z", "za", "k", "ka", "p0a", "p01a",
            "t0", "t0a", "j0", "c00a", "P011", "p011 ", ","};
        int[] due = {0, 4, 1, 1, 1, 2, 1, 2, 2, 2, 1, 1, 1, 1, 2, 3, 2, 2, 1, 3, 0, 4, 0};
        int numbers = w.count(0);
        for (int i = 0; i < texts.length; i++) {
            is("day " + texts[i], day(w, texts[i]), -1 - due[i]);
        }
        is("nothing is done then", w.count(0), numbers);
        is("the ROW stays", w.count(7), row);
        is("the text is empty then", w.count(8), 0);
    }

    private static void dayLengths() {
        BestWalks w = new BestWalks();
        is("60 signs", day(w, times("z1z2", 15)), 30);
        is("61 signs", day(w, times("z1z2", 15) + "z"), -61);
        is("62 signs", day(w, times("z3z4", 15) + "z1"), -61);
        is("59 signs that end too early", day(w, times("z3z4", 14) + "z3z"), -60);
        is("60 signs that end too early", day(w, times("z3z4", 14) + "z3p0"), -61);
        is("an act over the 60th sign", day(w, times("z3z4", 14) + "z3p01z0"), -62 + 1);
        is("a fault ahead of 60 in a long one", day(w, "z3!" + times("z", 70)), -3);
        is("a fault at 60", day(w, times("z3z4", 15) + "!"), -61);
        is("nothing is done then", w.count(2), 2);
    }

    private static void undoing() {
        promise = 16;
        BestWalks w = new BestWalks();
        is("none", w.undo(), -1);
        w.puts(0, 5);
        w.joins(0, 1, 5);
        w.costs(1, 1, 5);
        w.sets(0, 2);
        w.sets(1, 2);
        w.ends(3, 4);
        list(w, 0, "1,2");
        w.takes(0, 0);
        day(w, "p007z3");
        is("count(6)", w.count(6), 9);
        is("undo day", w.undo(), 8);
        is("SIZE", w.count(2), 2);
        is("count(0)", w.count(0), 1);
        is("undo takes", w.undo(), 7);
        is("count(0)", w.count(0), 2);
        is("undo lists", w.undo(), 6);
        is("number", w.number(0, 0), 5);
        is("undo ends", w.undo(), 5);
        is("ENDS", w.count(4), 1);
        is("undo sets", w.undo(), 4);
        is("PICKED", w.count(3), 0);
        is("undo sets", w.undo(), 3);
        is("SIZE", w.count(2), 0);
        is("undo costs", w.undo(), 2);
        is("costs", w.costs(1, 1, 0), 0);
        w.undo();
        is("undo joins", w.undo(), 1);
        is("EDGES", w.count(1), 0);
        is("undo puts", w.undo(), 0);
        is("count(0)", w.count(0), 0);
        is("none", w.undo(), -1);
        tenAreKept();
        otherThingsStay();
        eachIsUndone();
    }

    /** All that undo() brings back, as one text. */
    private static String seen(BestWalks w) {
        StringBuilder b = new StringBuilder();
        for (int x = 0; x < 4; x++) {
            for (int i = 0; !numberThrows(w, x, i); i++) {
                b.append(w.number(x, i)).append(',');
            }
            b.append(';');
        }
        for (int i = 0; i < w.count(1); i++) {
            b.append(w.edge(i, 0)).append(w.edge(i, 1)).append(':').append(w.edge(i, 2)).append(' ');
        }
        b.append(w.count(2)).append(w.count(3)).append(' ').append(w.count(4));
        for (int p = 0; p < 25; p++) {
            int was = w.costs(p / 5, p % 5, 0);
            w.undo();
            b.append(' ').append(was);
        }
        return b.toString();
    }

    private static void undoes(String what, int which) {
        BestWalks w = withDay("p005p106p107jab03jbg04c1109c4308k2ege");
        w.puts(3, 1);
        w.costs(2, 2, 2);
        String before = seen(w);
        int kept = w.count(6);
        switch (which) {
            case 0: w.puts(1, 9); break;
            case 1: w.takes(1, 1); break;
            case 2: w.joins(0, 1, 9); break;
            case 3: w.joins(1, 6, 0); break;
            case 4: w.joins(3, 2, 1); break;
            case 5: w.costs(4, 3, 1); break;
            case 6: w.sets(0, 3); break;
            case 7: w.sets(1, 3); break;
            case 8: w.ends(4, 6); break;
            case 9: list(w, 1, "1,2,3"); break;
            default: day(w, "p010t10jac05c0011z4k1ebat19"); break;
        }
        is(what + " can be undone", w.undo(), kept);
        String behind = seen(w);
        is(what + " is undone: " + before + " / " + behind, before.equals(behind), true);
    }

    private static void eachIsUndone() {
        String[] names = {"puts()", "takes()", "joins()", "joins() of 0", "joins() of a new one", "costs()", "SIZE", "PICKED",
            "ends()", "lists()", "day()"};
        for (int i = 0; i < names.length; i++) {
            undoes(names[i], i);
        }
    }

    private static void tenAreKept() {
        BestWalks w = new BestWalks();
        for (int i = 0; i < 13; i++) {
            w.costs(0, 0, i + 1);
        }
        is("count(6)", w.count(6), 10);
        for (int i = 9; i >= 0; i--) {
            is("undo", w.undo(), i);
        }
        is("none", w.undo(), -1);
        is("the first three stay", w.costs(0, 0, 0), 3);
    }

    private static void otherThingsStay() {
        BestWalks w = withLists("3,4", "5");
        rule(w, "-s");
        w.heard(1, 1);
        w.sign(7);
        w.undo();
        is("what was heard stays", w.count(5), 1);
        is("THE TEXT stays", w.count(8), 4);
        w.best(0, 1);
        rowIs("best by the rule that stays", w, -4, 1);
    }

    private static void bestOnes() {
        promise = 17;
        BestWalks w = withLists("5,5", "", "1,5");
        long[][] due = {{6, 0, 0}, {6, 1, 0}, {10, 0, 1}, {10, 1, 1}};
        for (int k = 1; k <= 4; k++) {
            is("best(0, " + k + ")", w.best(0, k), 2);
            rowIs("best(0, " + k + ")", w, due[k - 1]);
        }
        is("fewer", w.best(0, 5), -2);
        is("fewer", w.best(0, 400), -2);
        is("k", w.best(0, 0), -1);
        is("k", w.best(0, 401), -1);
        is("k", w.best(0, Integer.MIN_VALUE), -1);
        is("kind", w.best(-1, 1), -1);
        is("kind", w.best(5, 1), -1);
        rowIs("refused ones", w, 10, 1, 1);
        BestWalks p = withDay("z3c0001c0102c0203c1002c1101c1203c2003c2103c2201");
        is("best(2, 1)", p.best(2, 1), 3);
        rowIs("best(2, 1)", p, 3, 0, 1, 2);
        p.best(2, 2);
        rowIs("best(2, 2)", p, 5, 1, 0, 2);
        p.best(2, 3);
        rowIs("best(2, 3)", p, 7, 0, 2, 1);
        p.best(2, 4);
        rowIs("best(2, 4)", p, 7, 2, 1, 0);
        p.best(2, 5);
        rowIs("best(2, 5)", p, 8, 1, 2, 0);
        p.best(2, 6);
        rowIs("best(2, 6)", p, 8, 2, 0, 1);
        BestWalks s = withLists("0,1", "1,2,3");
        long[][] subsets = {{0}, {0, 0}, {1, 0, 1}, {1, 1}};
        for (int k = 1; k <= 4; k++) {
            is("best(3, " + k + ")", s.best(3, k), subsets[k - 1].length - 1);
            rowIs("best(3, " + k + ")", s, subsets[k - 1]);
        }
        s.sets(1, 1);
        s.best(3, 4);
        rowIs("best(3, 4)", s, 3, 0, 1);
        s.best(3, 5);
        rowIs("best(3, 5)", s, 3, 2);
    }

    private static void orderOfTrees() {
        promise = 17;
        BestWalks w = triangle();
        long[][] due = {{8, 0, 2, 3}, {9, 1, 2, 3}, {10, 0, 1, 3}};
        for (int k = 1; k <= 3; k++) {
            is("best(1, " + k + ")", w.best(1, k), 3);
            rowIs("best(1, " + k + ")", w, due[k - 1]);
        }
        is("fewer", w.best(1, 4), -2);
        w.joins(5, 6, 1);
        is("not all hang together", w.many(1), 0);
        BestWalks k = new BestWalks();
        for (int a = 0; a < 3; a++) {
            for (int b = 3; b < 7; b++) {
                k.joins(a, b, 1);
            }
        }
        is("trees of three and four", k.many(1), 432);
        is("best(1, 400)", k.best(1, 400), 6);
        BestWalks all = new BestWalks();
        for (int a = 0; a < 5; a++) {
            for (int b = a + 1; b < 5; b++) {
                all.joins(a, b, 1);
            }
        }
        is("trees of all five nodes", all.many(1), 125);
    }

    private static void orderOfRoutes() {
        promise = 17;
        BestWalks w = triangle();
        w.ends(3, 0);
        is("best(4, 1)", w.best(4, 1), 3);
        rowIs("best(4, 1)", w, 6, 3, 2, 0);
        is("best(4, 2)", w.best(4, 2), 4);
        rowIs("best(4, 2)", w, 8, 3, 2, 1, 0);
        is("fewer", w.best(4, 3), -2);
        w.ends(0, 6);
        is("no way", w.best(4, 1), -2);
        BestWalks line = withDay("jab01jbc01jcd01jde01jef01jfg01eag");
        is("seven nodes", line.best(4, 1), 7);
        rowIs("best(4, 1)", line, 6, 0, 1, 2, 3, 4, 5, 6);
        BestWalks ties = withDay("jab02jac01jcb01");
        ties.best(4, 1);
        rowIs("equal ones by rows", ties, 2, 0, 1);
        ties.best(4, 2);
        rowIs("equal ones by rows", ties, 2, 0, 2, 1);
    }

    private static void howMany() {
        promise = 18;
        BestWalks w = withLists("1,2,3,4,5,6", "1,2,3,4,5,6", "1,2,3,4,5,6", "1,2,3,4,5,6");
        is("many(0)", w.many(0), 1296);
        rowIs("many(0)", w, 4, 1, 24);
        rule(w, "m");
        is("many(0)", w.many(0), 1296);
        rowIs("many(0)", w, 1, 1, 6);
        rule(w, "-m");
        w.many(0);
        rowIs("many(0)", w, -6, 671, -1);
        is("many(3)", w.many(3), 64);
        rowIs("many(3)", w, 0, 1, 21);
        w.sets(0, 5);
        is("many(2)", w.many(2), 120);
        rowIs("many(2)", w, 0, 120, 0);
        is("many(4)", w.many(4), 0);
        rowIs("many(4)", w);
        is("kind", w.many(5), -1);
        is("kind", w.many(-1), -1);
    }

    private static void cheapOnes() {
        promise = 19;
        BestWalks w = withLists("5,7,12");
        is("below(3, 12)", w.below(3, 12), 5);
        rowIs("below(3, 12)", w, 12);
        is("below(3, 4)", w.below(3, 4), 1);
        rowIs("below(3, 4)", w, 0);
        is("below(3, 11)", w.below(3, 11), 3);
        rowIs("below(3, 11)", w, 7);
        is("below(3, big)", w.below(3, Integer.MAX_VALUE), 8);
        rowIs("below(3, big)", w, 24);
        is("below(3, -1)", w.below(3, -1), 0);
        rowIs("below(3, -1)", w);
        is("below(4, 9)", w.below(4, 9), 0);
        is("kind", w.below(5, 9), -1);
        is("kind", w.below(-1, 9), -1);
        rule(w, "-s");
        is("below(0, -7)", w.below(0, -7), 2);
        rowIs("below(0, -7)", w, -7);
    }

    private static void ranks() {
        promise = 20;
        BestWalks w = withLists("5,7,12");
        is("none taken", rank(w, 3, ""), 1);
        rowIs("rank", w, 0);
        is("ac", rank(w, 3, "ac"), 6);
        rowIs("rank", w, 17);
        is("ca", rank(w, 3, "ca"), -100);
        is("aa", rank(w, 3, "aa"), -100);
        is("abcd", rank(w, 3, "abcd"), -100);
        is("eight", rank(w, 3, "abcdefgh"), -100);
        is("nine", rank(w, 3, "abcdefghi"), -9);
        is("m", rank(w, 3, "am"), -2);
        is("A", rank(w, 3, "A"), -1);
        is("a fault first", rank(w, 9, "a!"), -2);
        is("no such kind", rank(w, 9, "ac"), -101);
        is("no such kind", rank(w, -1, "abcdefgh"), -101);
        is("the text is empty then", w.count(8), 0);
        is("no route", rank(w, 4, "ab"), -100);
        rowIs("refused ones", w, 17);
        BestWalks t = triangle();
        is("tree", rank(t, 1, "bcd"), 2);
        rowIs("rank", t, 9);
        is("route", rank(t, 4, "acb"), 2);
        rowIs("rank", t, 8);
        t.sets(0, 3);
        is("pairing", rank(t, 2, "cab"), 5);
        is("the last of many", rank(withLists("1,2,3,4,5,6", "1,2,3,4,5,6", "1,2,3,4,5,6", "1,2,3,4,5,6"), 0, "ffff"), 1296);
    }

    private static void alikeOnes() {
        promise = 21;
        BestWalks w = withLists("5,7,12");
        is("alike(3, 4)", w.alike(3, 4), 2);
        rowIs("alike(3, 4)", w, 4, 5);
        is("alike(3, 5)", w.alike(3, 5), 2);
        rowIs("alike(3, 5)", w, 4, 5);
        is("alike(3, 8)", w.alike(3, 8), 1);
        rowIs("alike(3, 8)", w, 8, 8);
        is("fewer", w.alike(3, 9), -2);
        is("k", w.alike(3, 0), -1);
        is("k", w.alike(3, 401), -1);
        is("kind", w.alike(5, 1), -1);
        w.sets(0, 5);
        is("all alike", w.alike(2, 100), 120);
        rowIs("all alike", w, 1, 120);
        BestWalks big = withLists("1,1,1,1,1,1", "1,1,1,1,1,1", "1,1,1,1,1,1", "1,1,1,1,1,1");
        is("beyond 400", big.alike(0, 400), 1296);
        rowIs("beyond 400", big, 1, 1296);
    }

    private static void sureOnes() {
        promise = 22;
        BestWalks w = withDay("z3c0105c0205c1005c2005");
        is("surely(2)", w.surely(2), 1);
        rowIs("surely(2)", w, 1);
        BestWalks r = withDay("jab01jbd01jac01jcd01ead");
        is("surely(4)", r.surely(4), 5);
        rowIs("surely(4)", r, 2);
        BestWalks s = withLists("0,0");
        is("some have no number there", s.surely(3), 0);
        rowIs("surely(3)", s, 0);
        BestWalks t = withDay("jac02jcd01jab01jbd01jde01eae");
        // a b d e costs 3, a c d e costs 4
        is("one alone", t.surely(4), 15);
        rowIs("surely(4)", t, 4);
        is("none of it", new BestWalks().surely(4), -2);
        is("kind", w.surely(5), -1);
        is("kind", w.surely(-1), -1);
    }

    private static void havingOnes() {
        promise = 23;
        BestWalks w = withLists("5,7,12");
        is("having 1 at 0", w.having(3, 0, 1, 1), 2);
        rowIs("having 1 at 0", w, 3, 7);
        is("not 1 at 0", w.having(3, 0, 1, 0), 6);
        rowIs("not 1 at 0", w, 1, 0);
        is("not 0 at 0", w.having(3, 0, 0, 0), 4);
        is("2 at 2", w.having(3, 2, 2, 1), 1);
        rowIs("2 at 2", w, 8, 24);
        is("at 7", w.having(3, 7, 11, 1), 0);
        rowIs("at 7", w);
        is("not at 7", w.having(3, 7, 11, 0), 8);
        is("no routes", w.having(4, 0, 0, 0), 0);
        rowIs("no routes", w);
        is("i", w.having(3, 8, 0, 1), -1);
        is("i", w.having(3, -1, 0, 1), -1);
        is("v", w.having(3, 0, 12, 1), -1);
        is("v", w.having(3, 0, -1, 1), -1);
        is("is", w.having(3, 0, 0, 2), -1);
        is("is", w.having(3, 0, 0, -1), -1);
        is("kind", w.having(5, 0, 0, 1), -1);
    }

    private static void differences() {
        promise = 24;
        BestWalks w = withLists("5,7,12");
        // 4 is 5 and 7, 5 is 12, 8 is all
        is("differ(3, 4, 5)", w.differ(3, 4, 5), 2);
        rowIs("differ(3, 4, 5)", w, 0);
        is("differ(3, 8, 4)", w.differ(3, 8, 4), 1);
        rowIs("differ(3, 8, 4)", w, 2);
        is("differ(3, 1, 8)", w.differ(3, 1, 8), 3);
        rowIs("differ(3, 1, 8)", w, 0);
        is("differ(3, 7, 7)", w.differ(3, 7, 7), 0);
        rowIs("differ(3, 7, 7)", w);
        is("fewer", w.differ(3, 1, 9), -2);
        is("fewer", w.differ(3, 9, 1), -2);
        is("a", w.differ(3, 0, 9), -1);
        is("b", w.differ(3, 9, 401), -1);
        is("kind", w.differ(5, 1, 1), -1);
    }

    private static void gaps() {
        promise = 25;
        BestWalks w = withLists("5,7,12");
        is("gap(3, 3)", w.gap(3, 3), 0);
        rowIs("gap(3, 3)", w, 5);
        is("gap(3, 4)", w.gap(3, 4), 0);
        rowIs("gap(3, 4)", w, 0);
        is("fewer", w.gap(3, 8), -2);
        is("k", w.gap(3, 400), -1);
        is("k", w.gap(3, 0), -1);
        is("kind", w.gap(-1, 1), -1);
        BestWalks big = withLists("1,2");
        // 2 to the 31st as an int is the least one; less 1 the greatest.
        is("rule", rule(big, "128*256*256*256-(s=2)"), 0);
        big.gap(0, 1);
        rowIs("not cut to an int", big, 4294967295L);
    }

    private static void openings() {
        promise = 26;
        BestWalks w = withLists("5,7,12");
        is("opens", w.opens(0, 3), 8);
        is("opens", w.opens(2, 4), 0);
        is("opens", w.opens(1, 2), 1);
        is("c", w.opens(3, 0), -1);
        is("c", w.opens(-1, 0), -1);
        is("kind", w.opens(0, 5), -1);
        is("kind", w.opens(0, -1), -1);
        w.goes(0);
        is("ahead of the first again", w.opens(0, 3), 8);
        is("skips", w.skips(0, 1), 7);
        staleBy();
        notStaleBy();
    }

    private static BestWalks opened() {
        BestWalks w = withDay("p005p107z1jab05");
        w.keep(0);
        w.opens(0, 0);
        return w;
    }

    private static void isStale(String what, BestWalks w, boolean due) {
        is(what + " makes stale", w.skips(0, 0) == -4, due);
    }

    private static void staleBy() {
        BestWalks w = opened();
        list(w, 3, "");
        isStale("lists()", w, true);
        w = opened();
        w.puts(0, 1);
        isStale("puts()", w, true);
        w = opened();
        w.takes(0, 0);
        isStale("takes()", w, true);
        w = opened();
        w.joins(0, 1, 5);
        isStale("joins()", w, true);
        w = opened();
        w.costs(0, 0, 0);
        isStale("costs()", w, true);
        w = opened();
        w.sets(0, 2);
        isStale("sets()", w, true);
        w = opened();
        w.ends(0, 1);
        isStale("ends()", w, true);
        w = opened();
        day(w, "k1k1");
        isStale("day()", w, true);
        w = opened();
        w.undo();
        isStale("undo()", w, true);
        w = opened();
        w.again(0);
        isStale("again()", w, true);
        w = opened();
        rule(w, "");
        isStale("rule()", w, true);
        w = opened();
        w.sheet(2, 1, 5, 0);
        isStale("sheet()", w, true);
        w = opened();
        w.sheet(3, 0, 0, 0);
        isStale("-3 of sheet()", w, true);
        w = opened();
        w.years(1, 40);
        isStale("years()", w, true);
        w.opens(0, 0);
        isStale("opens() again", w, false);
    }

    private static void notStaleBy() {
        BestWalks w = opened();
        list(w, 0, "x");
        w.puts(0, 100);
        w.takes(3, 0);
        w.joins(0, 0, 1);
        w.costs(5, 5, 5);
        w.sets(0, 1);
        w.ends(1, 1);
        day(w, "");
        day(w, "k0");
        day(w, "k1!");
        w.again(1);
        rule(w, "s+");
        w.sheet(2, -1, 0, 0);
        w.sheet(2, 13, 0, 0);
        isStale("a refused one", w, false);
        w.keep(1);
        w.heard(1, 1);
        w.forget();
        law(w, "-s");
        w.best(0, 1);
        isStale("a question", w, false);
        BestWalks none = new BestWalks();
        none.opens(0, 0);
        none.undo();
        isStale("a refused undo()", none, false);
    }

    private static void goings() {
        promise = 27;
        BestWalks w = withLists("5,7");
        w.opens(1, 3);
        long[][] due = {{0}, {5, 0}, {7, 1}, {12, 0, 1}};
        for (long[] row : due) {
            is("goes(1)", w.goes(1), row.length - 1);
            rowIs("goes(1)", w, row);
        }
        is("at the end", w.goes(1), -2);
        is("at the end", w.goes(1), -2);
        rowIs("at the end", w, 12, 0, 1);
        is("never opened", w.goes(0), -3);
        is("c", w.goes(3), -1);
        is("c", w.goes(-1), -1);
        w.puts(0, 1);
        is("stale at the end", w.goes(1), -4);
        is("never opened, behind a change", w.goes(0), -3);
        w.undo();
        is("stale for good", w.goes(1), -4);
        w.opens(0, 4);
        is("of none", w.goes(0), -2);
        two();
    }

    private static void two() {
        BestWalks w = withLists("5,7");
        w.opens(0, 3);
        w.opens(1, 3);
        w.opens(2, 0);
        w.goes(0);
        w.goes(0);
        is("each its own", w.goes(1), 0);
        is("each its own", w.goes(2), 1);
        w.goes(0);
        rowIs("each its own", w, 7, 1);
    }

    private static void skippings() {
        promise = 28;
        BestWalks w = withLists("5,7,12");
        w.opens(0, 3);
        w.many(3);
        is("skips(0, 0)", w.skips(0, 0), 8);
        is("skips(0, 3)", w.skips(0, 3), 5);
        rowIs("skips", w, 0, 1, 24);
        w.goes(0);
        rowIs("goes", w, 12, 0, 1);
        is("skips(0, 400)", w.skips(0, 400), 0);
        is("skips(0, 1)", w.skips(0, 1), 0);
        is("goes", w.goes(0), -2);
        is("n", w.skips(0, 401), -1);
        is("n", w.skips(0, -1), -1);
        is("n first", w.skips(1, 401), -1);
        is("never opened", w.skips(1, 1), -3);
        is("c", w.skips(3, 1), -1);
        is("c", w.skips(-1, 1), -1);
        BestWalks big = withLists("1,2,3,4,5,6", "1,2,3,4,5,6", "1,2,3,4,5,6", "1,2,3,4,5,6");
        big.opens(2, 0);
        is("skips", big.skips(2, 400), 896);
        is("skips", big.skips(2, 400), 496);
        is("skips", big.skips(2, 400), 96);
        is("skips", big.skips(2, 95), 1);
        is("goes to the last", big.goes(2), 4);
        rowIs("goes to the last", big, 24, 5, 5, 5, 5);
        is("goes", big.goes(2), -2);
        big.puts(0, 1);
        is("-2 of puts() is no change", big.skips(2, 0), 0);
        big.takes(0, 0);
        is("stale", big.skips(2, 0), -4);
        is("n first", big.skips(2, 401), -1);
    }

    private static void hearing() {
        promise = 29;
        BestWalks w = new BestWalks();
        int[] greatest = {30, 11, 11, 8, 11};
        for (int what = 0; what < 5; what++) {
            is("heard", w.heard(what, 0), 2 * what + 1);
            is("heard", w.heard(what, greatest[what]), 2 * what + 2);
            is("v", w.heard(what, greatest[what] + 1), -1);
            is("v", w.heard(what, -1), -1);
        }
        is("an eleventh", w.heard(0, 0), -1);
        is("count(5)", w.count(5), 10);
        BestWalks v = new BestWalks();
        for (int what = 0; what < 5; what++) {
            is("v, while there is room", v.heard(what, greatest[what] + 1), -1);
            is("v, while there is room", v.heard(what, -1), -1);
        }
        is("what", v.heard(5, 0), -1);
        is("what", v.heard(-1, 0), -1);
        is("twice", v.heard(1, 1) + v.heard(1, 1), 3);
    }

    private static void forgetting() {
        promise = 30;
        BestWalks w = withLists("5,7");
        is("forget", w.forget(), 0);
        w.heard(1, 1);
        w.heard(3, 8);
        is("forget", w.forget(), 2);
        is("forget", w.forget(), 0);
        is("fits", w.fits(3), 4);
        is("heard", w.heard(3, 1), 1);
    }

    private static int fitsOf(int what, int v) {
        BestWalks w = withLists("5,7,12");
        w.heard(what, v);
        return w.fits(3);
    }

    private static void fitting() {
        promise = 31;
        is("all", withLists("5,7,12").fits(3), 8);
        is("10 or more", fitsOf(0, 1), 5);
        is("20 or more", fitsOf(0, 2), 1);
        is("0 or more", fitsOf(0, 0), 8);
        is("first 0", fitsOf(1, 0), 4);
        is("first 1", fitsOf(1, 1), 2);
        is("last 2", fitsOf(2, 2), 4);
        is("last 0", fitsOf(2, 0), 1);
        is("of 2", fitsOf(3, 2), 3);
        is("of 0", fitsOf(3, 0), 1);
        is("with 1", fitsOf(4, 1), 4);
        BestWalks w = withLists("5,7,12");
        w.heard(4, 1);
        w.fits(3);
        rowIs("fits(3)", w, 3);
        w.heard(0, 1);
        is("fits(3)", w.fits(3), 3);
        rowIs("fits(3)", w, 4);
        w.heard(0, 2);
        is("fits(3)", w.fits(3), 1);
        rowIs("fits(3)", w, 8);
        w.heard(3, 1);
        is("fits(3)", w.fits(3), 0);
        rowIs("fits(3)", w);
        is("kind", w.fits(5), -1);
        is("kind", w.fits(-1), -1);
        BestWalks below = withLists("5");
        rule(below, "-s");
        below.heard(0, 0);
        is("a cost below 0", below.fits(0), 0);
        BestWalks exact = withLists("10,20");
        exact.heard(0, 1);
        is("just 10", exact.fits(0), 2);
    }

    private static void asking() {
        promise = 32;
        BestWalks w = withLists("5,7,12");
        // first 0, last 2, with 0, 1 or 2 halve the eight; first 0 is the least
        is("asks(3)", w.asks(3), 100);
        rowIs("asks(3)", w, 4);
        w.heard(1, 0);
        // {5}, {5,7}, {5,12}, all: costs 5, 12, 17, 24; last 2 is two, costs of 10: 3, of 20: 1
        is("asks(3)", w.asks(3), 202);
        rowIs("asks(3)", w, 2);
        w.heard(2, 2);
        is("asks(3)", w.asks(3), 2);
        rowIs("asks(3)", w, 1);
        w.heard(0, 2);
        is("one is left", w.asks(3), 0);
        rowIs("asks(3)", w, 1);
        w.heard(3, 8);
        is("none fits", w.asks(3), -2);
        is("none of it", w.asks(4), -2);
        is("kind", w.asks(5), -1);
        is("kind", w.asks(-1), -1);
        BestWalks dear = withLists("99", "99", "99", "0,3");
        // 297 and 300: only 30 tens tell them apart at once
        is("30 tens", dear.asks(0), 30);
        rowIs("30 tens", dear, 1);
        BestWalks twice = withLists("5,6", "5,6");
        rule(twice, "-1");
        // rows aa, ab, ba, bb; costs below 0: first 0 halves
        is("costs below 0", twice.asks(0), 100);
        BestWalks lengths = withDay("jab02jac01jcb01");
        is("by how many numbers", lengths.asks(4), 302);
        rowIs("by how many numbers", lengths, 1);
        BestWalks middles = withDay("jac01jcb01jad01jdb01");
        is("by what is in the row", middles.asks(4), 402);
        rowIs("by what is in the row", middles, 1);
        middles.joins(0, 4, 1);
        middles.joins(4, 1, 1);
        middles.heard(4, 4);
        is("one is left", middles.asks(4), 0);
        BestWalks zero = withLists("5,7");
        rule(zero, "-(s=7)");
        is("costs 0 and -1", zero.asks(0), 0);
        rowIs("costs 0 and -1", zero, 1);
        rule(zero, "10*(s=5)-(s=7)");
        is("costs 10 and -1", zero.asks(0), 0);
        rowIs("costs 10 and -1", zero, 1);
        BestWalks ten = withLists("5,7");
        for (int i = 0; i < 10; i++) {
            ten.heard(0, 0);
        }
        is("though ten were heard", ten.asks(3), 100);
    }

    private static void chances() {
        promise = 33;
        BestWalks w = withLists("5,7,12");
        is("odds", w.odds(3, 12, 1), 0);
        rowIs("odds", w, 5, 8);
        w.odds(3, 12, 2);
        rowIs("odds", w, 55, 64);
        w.odds(3, 12, 3);
        rowIs("odds", w, 485, 512);
        w.odds(3, 7, 1);
        rowIs("odds", w, 3, 8);
        w.odds(3, 16, 1);
        rowIs("lowest terms", w, 5, 8);
        w.odds(3, 18, 1);
        rowIs("lowest terms", w, 3, 4);
        w.odds(3, -1, 2);
        rowIs("never", w, 0, 1);
        w.odds(3, 99, 3);
        rowIs("surely", w, 1, 1);
        BestWalks big = withLists("1,2,3,4,5,6", "1,2,3,4,5,6", "1,2,3,4,5,6", "1,2,3,4,5,6");
        big.odds(0, 4, 3);
        rowIs("big ones", big, 1296L * 1296 * 1296 - 1295L * 1295 * 1295, 1296L * 1296 * 1296);
        is("none of it", w.odds(4, 0, 1), -2);
        is("n first", w.odds(4, 0, 4), -1);
        is("n", w.odds(3, 0, 0), -1);
        is("kind", w.odds(5, 0, 1), -1);
        is("kind", w.odds(-1, 0, 1), -1);
    }

    private static void duels() {
        promise = 34;
        BestWalks w = withLists("1,2,3,4", "3,8,9", "5", "");
        is("four", w.duel(0), 1002);
        rowIs("four", w, 1);
        is("three", w.duel(1), 1004);
        rowIs("three", w, 1);
        is("one", w.duel(2), 1005);
        rowIs("one", w, 0);
        is("none", w.duel(3), 1000);
        rowIs("none", w);
        is("like ones", withLists("4,4,4,4,4").duel(0), 1004);
        BestWalks u = withLists("2,9,9");
        // 9, then he takes 9 or 2: 9 - 9 + 2; 2 first: 2 - 9 + 9
        is("equally good", u.duel(0), 1002);
        rowIs("equally good", u, 0);
        is("x", w.duel(4), -1);
        is("x", w.duel(-1), -1);
    }

    private static void laws() {
        promise = 35;
        BestWalks w = withLists("5,7", "1,9");
        // by s: 5 1 (6), 7 1 (8), 5 9 (14), 7 9 (16)
        is("-s", law(w, "-s"), 4);
        rowIs("-s", w, -16, 16);
        is("m-l", law(w, "m-l"), 4);
        rowIs("m-l", w, 2, 16);
        is("e>f", law(w, "e>f"), 1);
        rowIs("e>f", w, 0, 6);
        is("e<f", law(w, "e<f"), 3);
        rowIs("e<f", w, 0, 14);
        is("equal ones by rows", law(w, "0-1"), 1);
        rowIs("0-1", w, -1, 6);
        is("an empty one", law(w, ""), 1);
        rowIs("an empty one", w, 6, 6);
        rule(w, "-s");
        is("an empty one", law(w, ""), 4);
        rowIs("an empty one", w, 6, -6);
        is("equal ones by rows", law(w, "7"), 4);
        w.best(0, 1);
        rowIs("the rule stays", w, -16, 1, 1);
        is("fault", law(w, "x"), -10000);
        is("fault", law(w, "s+"), -10002);
        is("fault", law(w, times("s+", 30)), -10040);
        is("fault", law(w, times("-", 40)), -10040);
        is("the text is empty then", w.count(8), 0);
        rowIs("faults", w, -16, 1, 1);
        w.best(0, 1);
        rowIs("the rule stays behind faults", w, -16, 1, 1);
        BestWalks none = new BestWalks();
        is("of none", law(none, "p"), 1);
        rowIs("of none", none, 1, 0);
    }

    private static void yearsGoBy() {
        promise = 36;
        for (int seed = -300; seed < 300; seed++) {
            yearsOf(seed * 7654321, 1 + (seed & 31) + (seed & 8));
        }
        BestWalks w = new BestWalks();
        is("n", w.years(1, 0), -1);
        is("n", w.years(1, 41), -1);
        is("n", w.years(1, -1), -1);
        BestWalks one = new BestWalks();
        // R of seed 0 is 12345: 0 by 65536, so puts(); then two draws more
        is("years(0, 1)", one.years(0, 1), 1);
        rowIs("years(0, 1)", one, 1, 0, 0);
        is("a number came", one.count(0), 1);
    }

    private static void yearsOf(int seed, int n) {
        BestWalks w = withDay("z3p050jab01");
        BestWalks by = withDay("z3p050jab01");
        int answer = w.years(seed, n);
        int[] r = {seed};
        for (int i = 0; i < n; i++) {
            oneYear(by, r);
        }
        is("CHOICES", answer, by.many(0));
        is("TREES", w.row(0), by.many(1));
        is("ROUTES", w.row(1), by.many(4));
        by.many(2);
        is("least of PAIRINGS", w.row(2), by.row(0));
        is("numbers of the ROW", w.count(7), 3);
        is("each act is kept", w.count(6), by.count(6));
        is("all is as due", seen(w).equals(seen(by)), true);
        w.undo();
        by.undo();
        is("each act is undone by itself", seen(w).equals(seen(by)), true);
    }

    private static int draw(int[] r, int n) {
        long next = (long) r[0] * 1103515245L + 12345L;
        r[0] = (int) next;
        return (int) ((next & 0xffffffffL) / 65536 % n);
    }

    private static void oneYear(BestWalks w, int[] r) {
        switch (draw(r, 4)) {
            case 0: {
                int x = draw(r, 4);
                w.puts(x, draw(r, 100));
                break;
            }
            case 1: {
                int x = draw(r, 4);
                w.takes(x, draw(r, 6));
                break;
            }
            case 2: {
                int a = draw(r, 7);
                int b = draw(r, 7);
                w.joins(a, b, draw(r, 99) + 1);
                break;
            }
            default: {
                int p = draw(r, 5);
                int j = draw(r, 5);
                w.costs(p, j, draw(r, 100));
                break;
            }
        }
    }

    private static void keeping() {
        promise = 37;
        BestWalks w = withDay("p005jab03c0009z2k1ecd");
        is("keep(0)", w.keep(0), true);
        is("keep(2)", w.keep(2), false);
        is("keep(-1)", w.keep(-1), false);
        is("undo stays", w.count(6), 1);
        day(w, "p006jab04c0008z3k2ede");
        is("keep(1)", w.keep(1), true);
        w.again(0);
        is("as kept under 0", 1000 * w.count(2) + 100 * w.count(3) + w.count(4), 2123);
        w.again(1);
        is("as kept under 1", 1000 * w.count(2) + 100 * w.count(3) + w.count(4), 3234);
        w.puts(0, 9);
        is("kept anew", w.keep(0), true);
        w.takes(0, 0);
        w.again(0);
        is("as kept anew", w.count(0), 3);
    }

    private static void againAsKept() {
        promise = 38;
        BestWalks w = withDay("p005jab03c0009z2k1ecd");
        rule(w, "-s");
        w.heard(1, 1);
        is("nothing kept", w.again(0), false);
        is("again(2)", w.again(2), false);
        is("again(-1)", w.again(-1), false);
        is("refused ones forget nothing", w.count(6), 1);
        w.keep(0);
        rule(w, "m");
        day(w, "p006jab04c0008z3k2ede");
        w.sign(9);
        is("nothing kept under 1", w.again(1), false);
        is("again(0)", w.again(0), true);
        is("count(0)", w.count(0), 1);
        is("weight", w.edge(0, 2), 3);
        is("SIZE, PICKED, ENDS", 1000 * w.count(2) + 100 * w.count(3) + w.count(4), 2123);
        is("nothing to undo", w.undo(), -1);
        is("cost", w.costs(0, 0, 0), 9);
        is("what was heard stays", w.count(5), 1);
        is("THE TEXT stays", w.count(8), 4);
        w.best(0, 1);
        rowIs("the rule stays", w, 5, 0);
        is("again(0) twice", w.again(0), true);
        is("cost", w.costs(0, 0, 0), 9);
    }

    private static void counts() {
        promise = 39;
        BestWalks w = withDay("p005p106p107jab03jbg04z4k2ege");
        w.heard(0, 0);
        w.heard(0, 1);
        w.heard(0, 2);
        w.many(0);
        w.sign(1);
        int[] due = {3, 2, 4, 2, 64, 3, 1, 3, 4, 1 + 2 + 64};
        for (int what = 0; what < 10; what++) {
            is("count(" + what + ")", w.count(what), due[what]);
        }
        is("count(10)", w.count(10), -1);
        is("count(-1)", w.count(-1), -1);
        is("count(big)", w.count(Integer.MAX_VALUE), -1);
    }

    private static void rows() {
        promise = 40;
        BestWalks w = new BestWalks();
        is("throws", rowThrows(w, 0), true);
        is("throws", rowThrows(w, -1), true);
        w.many(0);
        is("row(2)", w.row(2), 0);
        is("row(1)", w.row(1), 1);
        is("throws", rowThrows(w, 3), true);
        is("throws", rowThrows(w, Integer.MIN_VALUE), true);
        is("throws", rowThrows(w, Integer.MAX_VALUE), true);
        w.below(0, -1);
        is("throws", rowThrows(w, 0), true);
    }

    /** Term 2: the ROW stays with refusals, with answers that there is none, and with calls that do not tell of it. */
    private static void refusalsLeaveTheRow() {
        promise = 2;
        BestWalks w = withLists("5,7");
        w.best(3, 4);
        w.best(3, 5);
        w.best(9, 1);
        w.many(9);
        w.below(9, 1);
        rank(w, 3, "x");
        rank(w, 3, "h");
        rank(w, 9, "a");
        w.alike(3, 5);
        w.alike(9, 1);
        w.surely(4);
        w.surely(9);
        w.having(9, 0, 0, 0);
        w.differ(3, 1, 5);
        w.differ(9, 1, 1);
        w.gap(3, 4);
        w.gap(9, 1);
        w.goes(0);
        w.opens(0, 4);
        w.goes(0);
        w.skips(0, 1);
        w.heard(1, 1);
        w.fits(9);
        w.asks(4);
        w.asks(9);
        w.odds(4, 0, 1);
        w.odds(9, 0, 1);
        w.duel(9);
        law(w, "x");
        w.years(1, 0);
        day(w, "x");
        list(w, 1, "4,5");
        rule(w, "m");
        w.puts(0, 3);
        w.takes(0, 0);
        w.joins(0, 1, 3);
        w.sheet(2, 1, 3, 0);
        w.costs(0, 0, 3);
        w.sets(0, 2);
        w.ends(2, 3);
        w.undo();
        w.keep(0);
        w.again(0);
        w.forget();
        rowIs("all these", w, 12, 0, 1);
    }
}

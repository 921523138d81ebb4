import java.util.ArrayList;
import java.util.Arrays;
import java.util.List;
import java.util.NoSuchElementException;
import java.util.function.Function;
import java.util.function.Supplier;

/** What the tests of the document's sentences share: a test a sentence, told by the document's own words. */
abstract class Sentences {
    private static final List<String> FAULTS = new ArrayList<>();
    private static String here = "";
    private static int sentences = 0;

    // ---- sentences

    /** Runs the test of one sentence of a promise (0: of the Terms). */
    static void sentence(int promise, String words, Runnable test) {
        here = (promise == 0 ? "terms" : "promise " + promise) + ", \"" + words + "\"";
        sentences++;
        try {
            test.run();
        } catch (RuntimeException e) {
            fault("threw " + e);
        }
    }

    static void finish(String name) {
        for (String fault : FAULTS) {
            System.out.println(fault);
        }
        System.out.println(name + ": " + sentences + " sentences, " + FAULTS.size() + " answers not as due");
        if (!FAULTS.isEmpty()) {
            System.exit(1);
        }
    }

    private static void fault(String what) {
        FAULTS.add(here + ": " + what);
    }

    // ---- what is due

    static void is(String call, long got, long due) {
        if (got != due) {
            fault(call + " answered " + got + ", due is " + due);
        }
    }

    static void is(String call, boolean got, boolean due) {
        if (got != due) {
            fault(call + " answered " + got + ", due is " + due);
        }
    }

    static void is(String what, String got, String due) {
        if (!got.equals(due)) {
            fault(what + " is\n    " + got + ", due is\n    " + due);
        }
    }

    static void rowIs(String call, BestWalks w, long... due) {
        is("the ROW behind " + call, rowOf(w), Arrays.toString(due));
    }

    static void numbersAre(BestWalks w, int x, int... due) {
        is("LIST " + x, listOf(w, x), Arrays.toString(due));
    }

    /** EDGES told as lesser node, other node, weight, one behind another. */
    static void edgesAre(BestWalks w, int... due) {
        is("EDGES", edgesOf(w), Arrays.toString(due));
    }

    static void rowThrows(BestWalks w, int i) {
        is("row(" + i + ") throws", throwsNone(() -> w.row(i)), true);
    }

    static void numberThrows(BestWalks w, int x, int place) {
        is("number(" + x + ", " + place + ") throws", throwsNone(() -> w.number(x, place)), true);
    }

    static void edgeThrows(BestWalks w, int i, int what) {
        is("edge(" + i + ", " + what + ") throws", throwsNone(() -> w.edge(i, what)), true);
    }

    private static boolean throwsNone(Runnable call) {
        try {
            call.run();
            return false;
        } catch (NoSuchElementException e) {
            return true;
        }
    }

    // ---- objects

    /** Puts a text in the place of THE TEXT. */
    static BestWalks tell(BestWalks w, String text) {
        w.end(0);
        for (int i = 0; i < text.length(); i += 4) {
            int v = 0;
            for (int j = 0; j < 4; j++) {
                v = v << 8 | (i + j < text.length() ? text.charAt(i + j) : 0);
            }
            w.sign(v);
        }
        w.end(text.length());
        return w;
    }

    static int list(BestWalks w, int x, String text) {
        return tell(w, text).lists(x);
    }

    static int rule(BestWalks w, String text) {
        return tell(w, text).rule();
    }

    static int day(BestWalks w, String text) {
        return tell(w, text).day();
    }

    static int rank(BestWalks w, int kind, String text) {
        return tell(w, text).rank(kind);
    }

    static int law(BestWalks w, String text) {
        return tell(w, text).law();
    }

    static BestWalks withLists(String... lists) {
        BestWalks w = new BestWalks();
        for (int x = 0; x < lists.length; x++) {
            list(w, x, lists[x]);
        }
        return w;
    }

    static BestWalks withDay(String text) {
        BestWalks w = new BestWalks();
        day(w, text);
        return w;
    }

    /** All four LISTS full: 1296 CHOICES. */
    static BestWalks full() {
        return withLists("1,2,3,4,5,6", "1,2,3,4,5,6", "1,2,3,4,5,6", "1,2,3,4,5,6");
    }

    /** Twelve EDGES, all between 0 .. 2 and 3 .. 6, each of weight 1: 432 TREES. */
    static BestWalks twelveEdges() {
        BestWalks w = new BestWalks();
        for (int one = 0; one < 3; one++) {
            for (int other = 3; other < 7; other++) {
                w.joins(one, other, 1);
            }
        }
        return w;
    }

    static String times(String s, int n) {
        return s.repeat(n);
    }

    /** Something of everything: all that a call could change and should not. */
    static BestWalks world() {
        BestWalks w = withDay("p005p007p012p103p110p300p300p309");
        day(w, "jab04jac05jbc03jcd01jde02z3c0005c0107c0202c1008c1101c2209");
        w.costs(4, 4, 44);
        w.costs(2, 0, 6);
        rule(w, "m-l+s");
        w.keep(0);
        w.ends(3, 0);
        w.heard(0, 0);
        w.heard(4, 0);
        w.opens(0, 0);
        w.skips(0, 2);
        w.opens(1, 3);
        w.skips(1, 400);
        w.best(1, 2);
        tell(w, "8,4");
        return w;
    }

    /** A world whose text was emptied. */
    static BestWalks wordless() {
        BestWalks w = world();
        w.end(0);
        return w;
    }

    // ---- what can be seen

    static String rowOf(BestWalks w) {
        long[] row = new long[Math.max(0, w.count(7))];
        for (int i = 0; i < row.length; i++) {
            row[i] = w.row(i);
        }
        return Arrays.toString(row);
    }

    static String listOf(BestWalks w, int x) {
        List<Integer> numbers = new ArrayList<>();
        for (int i = 0; i < 10; i++) {
            try {
                numbers.add(w.number(x, i));
            } catch (NoSuchElementException e) {
                break;
            }
        }
        return numbers.toString();
    }

    static String edgesOf(BestWalks w) {
        List<Integer> edges = new ArrayList<>();
        for (int i = 0; i < w.count(1); i++) {
            for (int what = 0; what < 3; what++) {
                edges.add(w.edge(i, what));
            }
        }
        return edges.toString();
    }

    /** LISTS, EDGES, SIZE, PICKED, ENDS. */
    static String plain(BestWalks w) {
        StringBuilder b = new StringBuilder();
        for (int x = 0; x < 4; x++) {
            b.append(listOf(w, x));
        }
        return b.append(edgesOf(w)).append(w.count(2)).append(w.count(3)).append(' ').append(w.count(4)).toString();
    }

    /** The TABLE; it is gone then. */
    static String table(BestWalks w) {
        StringBuilder b = new StringBuilder("table");
        for (int i = 0; i < 25; i++) {
            b.append(' ').append(w.costs(i / 5, i % 5, 0));
        }
        return b.toString();
    }

    private static String counts(BestWalks w) {
        StringBuilder b = new StringBuilder(rowOf(w));
        for (int what = 0; what < 10; what++) {
            b.append(' ').append(w.count(what));
        }
        return b.append(plain(w)).toString();
    }

    private static String order(BestWalks w, int kind) {
        StringBuilder b = new StringBuilder("kind " + kind + ": " + w.many(kind)).append(rowOf(w));
        for (int k = 1; k <= 40 && w.best(kind, k) >= 0; k++) {
            b.append(rowOf(w));
        }
        return b.toString();
    }

    private static String cursors(BestWalks w) {
        StringBuilder b = new StringBuilder("cursors");
        for (int c = 0; c < 3; c++) {
            b.append(' ').append(w.skips(c, 0)).append(' ').append(w.goes(c)).append(rowOf(w)).append(w.skips(c, 1));
        }
        return b.toString();
    }

    private static String undone(BestWalks w) {
        StringBuilder b = new StringBuilder("undone");
        for (int i = 0; i < 5; i++) {
            b.append(' ').append(w.undo()).append(plain(w)).append(w.many(2)).append(rowOf(w));
        }
        return b.toString();
    }

    private static String kept(BestWalks w) {
        StringBuilder b = new StringBuilder("kept");
        for (int i = 1; i >= 0; i--) {
            b.append(' ').append(w.again(i)).append(plain(w)).append(w.many(2)).append(rowOf(w));
        }
        return b.append(table(w)).toString();
    }

    private static String heard(BestWalks w) {
        StringBuilder b = new StringBuilder("heard");
        for (int kind = 0; kind < 5; kind++) {
            b.append(' ').append(w.fits(kind)).append(rowOf(w)).append(w.asks(kind)).append(rowOf(w));
        }
        return b.append(w.forget()).toString();
    }

    private static String text(BestWalks w) {
        return "text " + w.lists(2) + listOf(w, 2);
    }

    /** All that can be seen of an object, looked at on as many as it takes, so that looking changes nothing. */
    static String all(Supplier<BestWalks> make) {
        List<Function<BestWalks, String>> looks = new ArrayList<>();
        looks.add(Sentences::counts);
        looks.add(Sentences::table);
        looks.add(Sentences::cursors);
        looks.add(Sentences::undone);
        looks.add(Sentences::kept);
        looks.add(Sentences::heard);
        looks.add(Sentences::text);
        StringBuilder b = new StringBuilder();
        for (Function<BestWalks, String> look : looks) {
            b.append(look.apply(make.get())).append('\n');
        }
        for (int kind = 0; kind < 5; kind++) {
            b.append(order(make.get(), kind)).append('\n');
        }
        return b.toString();
    }
}

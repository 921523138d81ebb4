/** The boundaries that promises 26 to 34 name: opens, goes, skips, heard, forget, fits, asks, odds, duel. */
public final class CursorBoundaries extends Sentences {
    private static final int LEAST = Integer.MIN_VALUE;
    private static final int GREATEST = Integer.MAX_VALUE;
    private static final int[] NO_KINDS = {-1, 5, LEAST, GREATEST};
    private static final int[] NO_CURSORS = {-1, 3, LEAST, GREATEST};

    public static void main(String[] args) {
        opens();
        stale();
        notStale();
        goes();
        skips();
        heard();
        forget();
        fits();
        asks();
        odds();
        duel();
        finish("CursorBoundaries");
    }

    /** SUBSETS of 5, 7, 12 by COST: 0, 5, 7, 12 (5 and 7), 12, 17, 19, 24. */
    private static BestWalks eight() {
        return withLists("5,7,12");
    }

    // ---- promise 26

    private static void opens() {
        sentence(26, "CURSOR c (0 .. 2) is opened on a KIND, ahead of the first: how many there are", () -> {
            BestWalks w = eight();
            for (int c = 0; c < 3; c++) {
                is("opens(" + c + ", 3)", w.opens(c, 3), 8);
                is("skips(" + c + ", 0)", w.skips(c, 0), 8);
                is("goes(" + c + ")", w.goes(c), 0);
            }
            is("opens(0, 3) again", w.opens(0, 3), 8);
            is("skips(0, 0), ahead of the first", w.skips(0, 0), 8);
            w.skips(0, 400);
            is("opens(0, 0), on another KIND", w.opens(0, 0), 3);
            is("goes(0)", w.goes(0), 1);
            rowIs("goes(0)", w, 5, 0);
            is("opens(1, 4) of none", w.opens(1, 4), 0);
            is("goes(1) of none", w.goes(1), -2);
            is("opens(0, 0) of 1296", full().opens(0, 0), 1296);
            is("opens(0, 1) of 432", twelveEdges().opens(0, 1), 432);
            for (int kind = 0; kind < 4; kind++) {
                is("opens(2, " + kind + ") of nothing", new BestWalks().opens(2, kind), 1);
            }
        });
        sentence(26, "NONE: others.", () -> {
            BestWalks w = eight();
            w.opens(0, 3);
            w.skips(0, 3);
            w.best(3, 8);
            for (int c : NO_CURSORS) {
                is("opens(" + c + ", 3)", w.opens(c, 3), -1);
                is("opens(" + c + ", 5)", w.opens(c, 5), -1);
            }
            for (int kind : NO_KINDS) {
                is("opens(0, " + kind + ")", w.opens(0, kind), -1);
                is("opens(1, " + kind + ")", w.opens(1, kind), -1);
            }
            is("skips(0, 0): it is where it was", w.skips(0, 0), 5);
            is("skips(1, 0): it was never opened", w.skips(1, 0), -3);
            rowIs("these", w, 24, 0, 1, 2);
        });
    }

    private interface Call {
        void on(BestWalks w);
    }

    private static BestWalks opened() {
        BestWalks w = withDay("p005p107z1jab05");
        w.puts(2, 1);
        w.keep(0);
        for (int c = 0; c < 3; c++) {
            w.opens(c, c);
        }
        return w;
    }

    private static void makesStale(String what, Call call) {
        BestWalks w = opened();
        call.on(w);
        for (int c = 0; c < 3; c++) {
            is("skips(" + c + ", 0) behind " + what, w.skips(c, 0), -4);
            is("goes(" + c + ") behind " + what, w.goes(c), -4);
        }
    }

    private static void leavesFresh(String what, Call call) {
        BestWalks w = opened();
        call.on(w);
        for (int c = 0; c < 3; c++) {
            is("skips(" + c + ", 0) behind " + what, w.skips(c, 0), 1);
        }
    }

    private static void stale() {
        sentence(26, "(It is STALE from the next change on: one of those that undo() undoes that was done", () -> {
            makesStale("lists()", w -> list(w, 0, "5,6"));
            makesStale("lists() of what is there", w -> list(w, 0, "5"));
            makesStale("lists() of none", w -> list(w, 3, ""));
            makesStale("puts()", w -> w.puts(0, 5));
            makesStale("takes()", w -> w.takes(0, 0));
            makesStale("joins()", w -> w.joins(0, 2, 5));
            makesStale("joins() of what is there", w -> w.joins(0, 1, 5));
            makesStale("joins() of 0", w -> w.joins(0, 1, 0));
            makesStale("costs()", w -> w.costs(4, 4, 5));
            makesStale("costs() of what is there", w -> w.costs(4, 4, 0));
            makesStale("sets() of SIZE", w -> w.sets(0, 2));
            makesStale("sets() of PICKED", w -> w.sets(1, 1));
            makesStale("ends()", w -> w.ends(5, 6));
            makesStale("ends() as they are", w -> w.ends(0, 1));
            makesStale("day() of one ACT", w -> day(w, "k1"));
            makesStale("day() whose second can't be", w -> day(w, "k1k1"));
            makesStale("years() of a puts()", w -> w.years(0, 1));
        });
        sentence(26, "undo(), again(), rule(), sheet() that were not refused; -3 of sheet(), too.)", () -> {
            makesStale("undo()", w -> w.undo());
            makesStale("again()", w -> w.again(0));
            makesStale("rule()", w -> rule(w, "m"));
            makesStale("rule() of none", w -> rule(w, ""));
            makesStale("sheet() of bytes", w -> w.sheet(0, 1, 5, 0));
            makesStale("sheet() of shorts", w -> w.sheet(1, 0, 5, 0));
            makesStale("sheet() of ints", w -> w.sheet(2, 1, 5, 0));
            makesStale("-3 of sheet()", w -> w.sheet(3, 0, 5, 0));
            BestWalks none = new BestWalks();
            none.opens(0, 1);
            none.sheet(2, 1, 5, 0);
            is("sheet() of no EDGES", none.goes(0), -4);
        });
        sentence(26, "(it is STALE till it is opened again)", () -> {
            BestWalks w = opened();
            w.puts(0, 9);
            w.undo();
            is("goes(0) though all is as it was", w.goes(0), -4);
            w.opens(0, 0);
            is("goes(0)", w.goes(0), 3);
            is("goes(1), which was not opened again", w.goes(1), -4);
        });
    }

    private static void notStale() {
        sentence(26, "(refused ones make nothing STALE)", () -> {
            leavesFresh("lists() of a fault", w -> list(w, 0, "x"));
            leavesFresh("lists() of another x", w -> list(w, 4, "5"));
            leavesFresh("puts()", w -> w.puts(0, 100));
            leavesFresh("takes()", w -> w.takes(0, 1));
            leavesFresh("joins()", w -> w.joins(1, 1, 5));
            leavesFresh("-2 of joins()", w -> w.joins(2, 3, 0));
            leavesFresh("costs()", w -> w.costs(5, 0, 0));
            leavesFresh("sets()", w -> w.sets(0, 6));
            leavesFresh("-2 of sets()", w -> w.sets(0, 1));
            leavesFresh("ends()", w -> w.ends(1, 1));
            leavesFresh("day() of a fault", w -> day(w, "k1x"));
            leavesFresh("day() whose first can't be", w -> day(w, "k0k1"));
            leavesFresh("day() of no ACTS", w -> day(w, ""));
            leavesFresh("again()", w -> w.again(1));
            leavesFresh("rule()", w -> rule(w, "x"));
            leavesFresh("-2 of sheet()", w -> w.sheet(0, -1, 5, 0));
            leavesFresh("NONE of sheet()", w -> w.sheet(3, 13, 5, 0));
            leavesFresh("NONE of years()", w -> w.years(0, 0));
            // joins(5, 5, 91)
            leavesFresh("years() whose only one is refused", w -> w.years(1, 1));
            BestWalks none = new BestWalks();
            none.opens(0, 0);
            none.undo();
            is("undo()", none.skips(0, 0), 1);
            BestWalks full = twelveEdges();
            full.opens(0, 1);
            full.joins(0, 1, 1);
            is("-3 of joins()", full.skips(0, 0), 432);
            BestWalks six = full();
            six.opens(0, 0);
            six.puts(0, 1);
            is("-2 of puts()", six.skips(0, 0), 1296);
        });
        sentence(26, "(others make nothing STALE)", () -> {
            leavesFresh("keep()", w -> w.keep(1));
            leavesFresh("heard()", w -> w.heard(0, 0));
            leavesFresh("forget()", w -> w.forget());
            leavesFresh("law()", w -> law(w, "m"));
            leavesFresh("rank()", w -> rank(w, 0, "aa"));
            leavesFresh("sign(), end()", w -> tell(w, "123"));
            leavesFresh("best(), many(), below()", w -> w.best(0, 1 + w.many(0) + w.below(0, 1)));
        });
    }

    // ---- promise 27

    private static void goes() {
        sentence(27, "CURSOR c goes on by one: how many numbers the row of that has; the ROW: as best()", () -> {
            BestWalks w = eight();
            w.opens(0, 3);
            for (int k = 1; k <= 8; k++) {
                int due = w.best(3, k);
                String row = rowOf(w);
                w.many(3);
                is("goes(0) to " + k, w.goes(0), due);
                is("the ROW at " + k, rowOf(w), row);
            }
            is("goes(0) at the end", w.goes(0), -2);
            BestWalks big = full();
            big.opens(0, 0);
            big.skips(0, 400);
            is("goes(0) to 401", big.goes(0), 4);
            is("skips(0, 0)", big.skips(0, 0), 895);
        });
        sentence(27, "-2: it is at the end", () -> {
            BestWalks w = eight();
            w.opens(0, 3);
            w.skips(0, 7);
            is("goes(0) to the last", w.goes(0), 3);
            rowIs("goes(0) to the last", w, 24, 0, 1, 2);
            for (int i = 0; i < 3; i++) {
                is("goes(0) at the end", w.goes(0), -2);
            }
            rowIs("goes(0) at the end", w, 24, 0, 1, 2);
            w.opens(1, 4);
            is("goes(1) of none", w.goes(1), -2);
        });
        sentence(27, "-3: it was never opened", () -> {
            BestWalks w = eight();
            w.best(3, 8);
            w.opens(1, 3);
            is("goes(0)", w.goes(0), -3);
            is("goes(2)", w.goes(2), -3);
            w.puts(0, 1);
            is("goes(0) behind a change", w.goes(0), -3);
            w.opens(0, 9);
            is("goes(0) behind a refused opens()", w.goes(0), -3);
            rowIs("these", w, 24, 0, 1, 2);
        });
        sentence(27, "-4: it is STALE", () -> {
            BestWalks w = eight();
            w.opens(0, 3);
            w.opens(1, 3);
            w.goes(0);
            w.skips(1, 400);
            w.best(3, 8);
            w.puts(1, 1);
            is("goes(0)", w.goes(0), -4);
            is("goes(0), it stays so", w.goes(0), -4);
            is("goes(1), which was at the end", w.goes(1), -4);
            rowIs("these", w, 24, 0, 1, 2);
        });
        sentence(27, "NONE: none such.", () -> {
            BestWalks w = eight();
            w.best(3, 8);
            for (int c : NO_CURSORS) {
                is("goes(" + c + ")", w.goes(c), -1);
            }
            w.opens(0, 3);
            w.puts(1, 1);
            is("goes(3)", w.goes(3), -1);
            rowIs("these", w, 24, 0, 1, 2);
        });
    }

    // ---- promise 28

    private static void skips() {
        sentence(28, "CURSOR c goes on by n (0 .. 400; to the end at most): how many are left", () -> {
            BestWalks w = eight();
            w.opens(0, 3);
            w.best(3, 8);
            is("skips(0, 0)", w.skips(0, 0), 8);
            is("skips(0, 3)", w.skips(0, 3), 5);
            is("skips(0, 4)", w.skips(0, 4), 1);
            is("skips(0, 1)", w.skips(0, 1), 0);
            is("skips(0, 1) at the end", w.skips(0, 1), 0);
            is("skips(0, 400) at the end", w.skips(0, 400), 0);
            is("skips(0, 0) at the end", w.skips(0, 0), 0);
            rowIs("skips()", w, 24, 0, 1, 2);
            is("goes(0)", w.goes(0), -2);
            w.opens(0, 3);
            is("skips(0, 400)", w.skips(0, 400), 0);
            w.opens(0, 3);
            is("skips(0, 9), one too many", w.skips(0, 9), 0);
            w.opens(0, 3);
            is("skips(0, 8), just all", w.skips(0, 8), 0);
            w.opens(1, 4);
            is("skips(1, 5) of none", w.skips(1, 5), 0);
            BestWalks big = full();
            big.opens(2, 0);
            int left = 1296;
            for (int i = 0; i < 4; i++) {
                left = Math.max(0, left - 400);
                is("skips(2, 400)", big.skips(2, 400), left);
            }
        });
        sentence(28, "-3, -4, NONE: as goes()", () -> {
            BestWalks w = eight();
            is("skips(0, 0), never opened", w.skips(0, 0), -3);
            is("skips(0, 400), never opened", w.skips(0, 400), -3);
            w.opens(0, 3);
            w.opens(1, 3);
            w.skips(1, 400);
            w.puts(1, 1);
            is("skips(0, 0), STALE", w.skips(0, 0), -4);
            is("skips(1, 400), STALE at the end", w.skips(1, 400), -4);
            is("skips(2, 1), never opened behind a change", w.skips(2, 1), -3);
            for (int c : NO_CURSORS) {
                is("skips(" + c + ", 1)", w.skips(c, 1), -1);
                is("skips(" + c + ", 401)", w.skips(c, 401), -1);
            }
        });
        sentence(28, "NONE: another n.", () -> {
            BestWalks w = eight();
            w.opens(0, 3);
            w.skips(0, 2);
            w.opens(1, 3);
            for (int n : new int[] {-1, 401, LEAST, GREATEST}) {
                is("skips(0, " + n + ")", w.skips(0, n), -1);
                is("skips(2, " + n + "), never opened", w.skips(2, n), -1);
            }
            is("skips(0, 0): it is where it was", w.skips(0, 0), 6);
            w.puts(1, 1);
            for (int n : new int[] {-1, 401, LEAST, GREATEST}) {
                is("skips(1, " + n + "), STALE", w.skips(1, n), -1);
            }
        });
    }

    // ---- promise 29

    private static final int[] MOST = {30, 11, 11, 8, 11};

    private static void heard() {
        sentence(29, "v (0 .. 30) .. (0 .. 11) .. (0 .. 11) .. (0 .. 8) .. (0 .. 11): how many such", () -> {
            BestWalks w = new BestWalks();
            for (int what = 0; what < 5; what++) {
                is("heard(" + what + ", 0)", w.heard(what, 0), 2 * what + 1);
                is("heard(" + what + ", " + MOST[what] + ")", w.heard(what, MOST[what]), 2 * what + 2);
            }
        });
        sentence(29, "Refused: others", () -> {
            BestWalks w = new BestWalks();
            w.heard(0, 0);
            for (int what = 0; what < 5; what++) {
                for (int v : new int[] {-1, MOST[what] + 1, LEAST, GREATEST}) {
                    is("heard(" + what + ", " + v + ")", w.heard(what, v), -1);
                }
            }
            for (int what : new int[] {-1, 5, LEAST, GREATEST}) {
                is("heard(" + what + ", 0)", w.heard(what, 0), -1);
            }
            is("count(5)", w.count(5), 1);
            is("fits(3)", w.fits(3), 1);
        });
        sentence(29, "10.", () -> {
            BestWalks w = eight();
            for (int i = 1; i <= 10; i++) {
                is("heard", w.heard(4, i % 3), i);
            }
            is("an eleventh", w.heard(4, 0), -1);
            is("an eleventh", w.heard(3, 8), -1);
            is("count(5)", w.count(5), 10);
            is("fits(3): the eleventh is not among them", w.fits(3), 1);
            w.forget();
            is("heard", w.heard(3, 0), 1);
        });
        sentence(29, "what 0: COST is v tens or more", () -> {
            BestWalks w = withLists("9,10,11", "0,99", "0,95", "0,95");
            // 299 is 10 + 99 + 95 + 95, 300 with 11
            int[] tens = {0, 1, 29, 30};
            int[] due = {24, 23, 3, 1};
            for (int i = 0; i < tens.length; i++) {
                w.heard(0, tens[i]);
                is("fits(0) of " + tens[i] + " tens or more", w.fits(0), due[i]);
                w.forget();
            }
            rule(w, "10-s");
            w.heard(0, 0);
            is("fits(0) of COSTS below 0", w.fits(0), 2);
        });
        sentence(29, "1: the first number of its row is v; 2: the last one is v", () -> {
            BestWalks w = eight();
            int[] first = {4, 2, 1, 0};
            int[] last = {1, 2, 4, 0};
            for (int v = 0; v < 4; v++) {
                w.heard(1, v);
                is("fits(3) of first " + v, w.fits(3), first[v]);
                w.forget();
                w.heard(2, v);
                is("fits(3) of last " + v, w.fits(3), last[v]);
                w.forget();
            }
            BestWalks none = new BestWalks();
            none.heard(1, 0);
            is("fits(3) of a row of none", none.fits(3), 0);
            none.forget();
            none.heard(2, 0);
            is("fits(3) of a row of none", none.fits(3), 0);
            BestWalks trees = twelveEdges();
            trees.heard(2, 11);
            trees.heard(1, 0);
            is("fits(1) of last 11", trees.fits(1) > 0, true);
        });
        sentence(29, "3: its row has v numbers; 4: v is in its row", () -> {
            BestWalks w = eight();
            int[] length = {1, 3, 3, 1, 0, 0, 0, 0, 0};
            for (int v = 0; v <= 8; v++) {
                w.heard(3, v);
                is("fits(3) of " + v + " numbers", w.fits(3), length[v]);
                w.forget();
            }
            for (int v = 0; v <= 11; v++) {
                w.heard(4, v);
                is("fits(3) of one with " + v, w.fits(3), v < 3 ? 4 : 0);
                w.forget();
            }
            BestWalks line = withDay("jab01jbc01jcd01jde01jef01jfg01eag");
            line.heard(3, 7);
            is("fits(4) of 7 numbers", line.fits(4), 1);
            BestWalks trees = twelveEdges();
            trees.heard(4, 11);
            int with = trees.fits(1);
            is("fits(1) of those with 11", with, 216);
        });
    }

    // ---- promise 30

    private static void forget() {
        sentence(30, "It is forgotten: how many there were.", () -> {
            BestWalks w = eight();
            is("forget() of none", w.forget(), 0);
            for (int i = 0; i < 10; i++) {
                w.heard(3, 8);
            }
            is("fits(3)", w.fits(3), 0);
            is("forget() of ten", w.forget(), 10);
            is("count(5)", w.count(5), 0);
            is("fits(3)", w.fits(3), 8);
            is("forget() again", w.forget(), 0);
        });
    }

    // ---- promise 31

    private static void fits() {
        sentence(31, "How many of a KIND fit all that was heard: how many; the ROW: PLACE of the first of them", () -> {
            BestWalks w = eight();
            is("fits(3), nothing was heard", w.fits(3), 8);
            rowIs("fits(3)", w, 1);
            w.heard(4, 2);
            is("fits(3)", w.fits(3), 4);
            rowIs("fits(3)", w, 5);
            w.heard(4, 1);
            is("fits(3), both", w.fits(3), 2);
            rowIs("fits(3), both", w, 7);
            w.heard(4, 0);
            is("fits(3), all three", w.fits(3), 1);
            rowIs("fits(3), the last", w, 8);
            BestWalks big = full();
            rule(big, "s*(f>5)");
            big.heard(1, 5);
            is("fits(0)", big.fits(0), 216);
            rowIs("fits(0), the first is beyond 400", big, 1081);
        });
        sentence(31, "(nothing without)", () -> {
            BestWalks w = eight();
            w.best(3, 8);
            is("fits(4) of none", w.fits(4), 0);
            rowIs("fits(4) of none", w);
            w.best(3, 8);
            w.heard(3, 8);
            is("fits(3)", w.fits(3), 0);
            rowIs("fits(3)", w);
        });
        sentence(31, "NONE: none such.", () -> {
            BestWalks w = eight();
            w.best(3, 8);
            for (int kind : NO_KINDS) {
                is("fits(" + kind + ")", w.fits(kind), -1);
            }
            rowIs("these", w, 24, 0, 1, 2);
        });
    }

    // ---- promise 32

    private static void asks() {
        sentence(32, "so that, it is so or not, the fewest of a KIND that fit are left at most", () -> {
            BestWalks w = eight();
            is("asks(3)", w.asks(3), 100);
            rowIs("asks(3)", w, 4);
            BestWalks odd = withLists("1,11,21");
            // of three one is asked for: 10 or more leaves two
            is("asks(0)", odd.asks(0), 1);
            rowIs("asks(0)", odd, 2);
        });
        sentence(32, "100 times what and v, as they may be heard", () -> {
            BestWalks most = withLists("99", "99", "99", "2,3");
            is("asks(0) of 299 and 300", most.asks(0), 30);
            rowIs("asks(0) of 299 and 300", most, 1);
            BestWalks beyond = withLists("99", "99", "99", "12,13");
            // 31 tens may not be heard: the last number tells
            is("asks(0) of 309 and 310", beyond.asks(0), 200);
            rowIs("asks(0) of 309 and 310", beyond, 1);
            BestWalks lengths = withDay("jab05jac02jcb03");
            is("asks(4) of 2 and 3 numbers", lengths.asks(4), 302);
            BestWalks within = withDay("jac01jcb01jad01jdb01");
            is("asks(4) of one between", within.asks(4), 402);
            BestWalks zero = withDay("jba01jac01jbd01jdc01ebc");
            is("asks(4) of a 0 between", zero.asks(4), 400);
            rowIs("asks(4) of a 0 between", zero, 1);
            BestWalks high = withDay("jaf01jfb01jag01jgb01");
            is("asks(4) of one between", high.asks(4), 405);
        });
        sentence(32, "of equal ones the least", () -> {
            BestWalks one = withLists("5");
            is("asks(0) of one", one.asks(0), 0);
            rowIs("asks(0) of one", one, 1);
            BestWalks none = new BestWalks();
            is("asks(0) of one with none", none.asks(0), 0);
            rowIs("asks(0) of one with none", none, 1);
            BestWalks two = withLists("15,35");
            // 2 and 3 tens tell as well
            is("asks(0) of 15 and 35", two.asks(0), 2);
            rowIs("asks(0) of 15 and 35", two, 1);
            BestWalks below = withLists("5,6");
            rule(below, "-s");
            is("asks(0) of COSTS below 0", below.asks(0), 100);
            rule(below, "5-s");
            is("asks(0) of 0 and -1", below.asks(0), 0);
            rowIs("asks(0) of 0 and -1", below, 1);
            rule(below, "128*256*256*256-(s=5)");
            is("asks(0) of the least and the greatest int", below.asks(0), 0);
        });
        sentence(32, "(of those that fit)", () -> {
            BestWalks w = eight();
            w.heard(1, 0);
            is("asks(3)", w.asks(3), 202);
            rowIs("asks(3)", w, 2);
            for (int i = 0; i < 9; i++) {
                w.heard(1, 0);
            }
            is("asks(3) though ten were heard", w.asks(3), 202);
        });
        sentence(32, "-2: none fits", () -> {
            BestWalks w = eight();
            w.best(3, 8);
            is("asks(4) of none", w.asks(4), -2);
            w.heard(3, 8);
            is("asks(3)", w.asks(3), -2);
            rowIs("these", w, 24, 0, 1, 2);
        });
        sentence(32, "NONE: none such.", () -> {
            BestWalks w = eight();
            w.best(3, 8);
            w.heard(3, 8);
            for (int kind : NO_KINDS) {
                is("asks(" + kind + ")", w.asks(kind), -1);
            }
            rowIs("these", w, 24, 0, 1, 2);
        });
    }

    // ---- promise 33

    private static void odds() {
        sentence(33, "One of a KIND is drawn n times (1 .. 3; each alike, the same, too)", () -> {
            BestWalks w = eight();
            is("odds(3, 0, 1)", w.odds(3, 0, 1), 0);
            rowIs("odds(3, 0, 1)", w, 1, 8);
            is("odds(3, 0, 2)", w.odds(3, 0, 2), 0);
            rowIs("odds(3, 0, 2)", w, 15, 64);
            is("odds(3, 0, 3)", w.odds(3, 0, 3), 0);
            rowIs("odds(3, 0, 3)", w, 169, 512);
            is("odds(3, 0, 0)", w.odds(3, 0, 0), -1);
            is("odds(3, 0, 4)", w.odds(3, 0, 4), -1);
        });
        sentence(33, "how likely that COST of one at least is c or less: 0; the ROW: the fraction", () -> {
            BestWalks w = eight();
            w.odds(3, 11, 1);
            rowIs("odds(3, 11, 1)", w, 3, 8);
            w.odds(3, 12, 1);
            rowIs("odds(3, 12, 1)", w, 5, 8);
            w.odds(3, 17, 1);
            rowIs("odds(3, 17, 1)", w, 3, 4);
            w.odds(3, 17, 2);
            rowIs("odds(3, 17, 2)", w, 15, 16);
            w.odds(3, 23, 1);
            rowIs("odds(3, 23, 1)", w, 7, 8);
            for (int n = 1; n <= 3; n++) {
                w.odds(3, 24, n);
                rowIs("surely", w, 1, 1);
                w.odds(3, GREATEST, n);
                rowIs("surely", w, 1, 1);
                w.odds(3, -1, n);
                rowIs("never", w, 0, 1);
                w.odds(3, LEAST, n);
                rowIs("never", w, 0, 1);
            }
            BestWalks big = full();
            big.odds(0, 4, 3);
            rowIs("beyond ints", big, 2176782336L - 2171747375L, 2176782336L);
            big.odds(0, 23, 3);
            rowIs("beyond ints", big, 2176782335L, 2176782336L);
            BestWalks one = new BestWalks();
            one.odds(2, 0, 3);
            rowIs("of one", one, 1, 1);
        });
        sentence(33, "-2: there is none of it", () -> {
            BestWalks w = eight();
            w.best(3, 8);
            for (int n = 1; n <= 3; n++) {
                is("odds(4, 0, " + n + ")", w.odds(4, 0, n), -2);
            }
            is("odds(1, 0, 1)", withDay("jab01jcd01").odds(1, 0, 1), -2);
            rowIs("these", w, 24, 0, 1, 2);
        });
        sentence(33, "NONE: others.", () -> {
            BestWalks w = eight();
            w.best(3, 8);
            for (int kind : NO_KINDS) {
                is("odds(" + kind + ", 0, 1)", w.odds(kind, 0, 1), -1);
            }
            for (int n : new int[] {0, -1, 4, LEAST, GREATEST}) {
                is("odds(3, 0, " + n + ")", w.odds(3, 0, n), -1);
                is("odds(4, 0, " + n + ") of none", w.odds(4, 0, n), -1);
            }
            rowIs("these", w, 24, 0, 1, 2);
        });
    }

    // ---- promise 34

    private static void duelIs(String list, int more, int first) {
        BestWalks w = withLists("", "", "", list);
        is("duel(3) of " + list, w.duel(3), 1000 + more);
        rowIs("duel(3) of " + list, w, first);
        numbersAre(w, 3, withNumbers(list));
    }

    private static int[] withNumbers(String list) {
        String[] parts = list.split(",");
        int[] numbers = new int[parts.length];
        for (int i = 0; i < parts.length; i++) {
            numbers[i] = Integer.parseInt(parts[i]);
        }
        return numbers;
    }

    private static void duel() {
        sentence(34, "how much more the first one has (below 0, too), and 1000", () -> {
            duelIs("0,99", 99, 1);
            duelIs("3,8", 5, 1);
            // 9, then the other one 8 (he would have 3 else), then 3
            duelIs("3,8,9", 4, 1);
            duelIs("1,2,3,4", 2, 1);
            duelIs("0,0,0,0,0,99", 99, 1);
            // 99 and 99 each, and the 0 left over or not
            duelIs("0,99,99", 0, 0);
            duelIs("99,99,99,99,99,99", 0, 0);
            duelIs("99,99,99,99,99", 99, 0);
            duelIs("0,0,0,0,0,0", 0, 0);
            duelIs("1,2,3,4,5,6", 3, 1);
        });
        sentence(34, "the ROW: 0 if he best takes the first one first, else 1 (equally good: 0", () -> {
            duelIs("5", 5, 0);
            duelIs("0", 0, 0);
            duelIs("5,5", 0, 0);
            duelIs("2,9,9", 2, 0);
            duelIs("5,6", 1, 1);
        });
        sentence(34, "nothing without NUMBERS)", () -> {
            for (int x = 0; x < 4; x++) {
                BestWalks w = new BestWalks();
                w.many(0);
                is("duel(" + x + ")", w.duel(x), 1000);
                rowIs("duel(" + x + ")", w);
            }
        });
        sentence(34, "NONE: none such.", () -> {
            BestWalks w = full();
            w.many(3);
            for (int x : new int[] {-1, 4, LEAST, GREATEST}) {
                is("duel(" + x + ")", w.duel(x), -1);
            }
            rowIs("these", w, 0, 1, 21);
            for (int x = 0; x < 4; x++) {
                is("duel(" + x + ")", w.duel(x), 1003);
            }
        });
    }
}

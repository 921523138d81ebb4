/** The boundaries that promises 17 to 25 name: best, many, below, rank, alike, surely, having, differ, gap. */
public final class OrderBoundaries extends Sentences {
    private static final int LEAST = Integer.MIN_VALUE;
    private static final int GREATEST = Integer.MAX_VALUE;
    private static final int[] NO_KINDS = {-1, 5, LEAST, GREATEST};

    public static void main(String[] args) {
        best();
        many();
        below();
        rank();
        rankFaults();
        alike();
        surely();
        having();
        differ();
        gap();
        finish("OrderBoundaries");
    }

    /** SUBSETS of 5, 7, 12 by COST: 0, 5, 7, 12 (5 and 7), 12, 17, 19, 24. */
    private static BestWalks eight() {
        return withLists("5,7,12");
    }

    /** CHOICES that all cost 0. */
    private static BestWalks choices(String... lists) {
        BestWalks w = withLists(lists);
        rule(w, "0");
        return w;
    }

    /** Just as many CHOICES as there are PLACES to ask for. */
    private static BestWalks fourHundred() {
        return choices("1,2,3,4", "1,2,3,4", "1,2,3,4,5", "1,2,3,4,5");
    }

    // ---- promise 17

    private static void best() {
        sentence(17, "That of a KIND at PLACE k (1 .. 400): how many numbers its row has", () -> {
            BestWalks w = full();
            is("best(0, 1)", w.best(0, 1), 4);
            rowIs("best(0, 1)", w, 4, 0, 0, 0, 0);
            is("best(0, 400)", w.best(0, 400), 4);
            is("best(0, 401)", w.best(0, 401), -1);
            is("best(0, 0)", w.best(0, 0), -1);
            BestWalks edge = fourHundred();
            is("best(0, 400) of 400", edge.best(0, 400), 4);
            rowIs("best(0, 400) of 400", edge, 0, 3, 3, 4, 4);
            BestWalks trees = twelveEdges();
            is("best(1, 400) of 432", trees.best(1, 400), 6);
        });
        sentence(17, "the ROW: COST, then its row", () -> {
            BestWalks w = new BestWalks();
            is("a row of none", w.best(3, 1), 0);
            rowIs("a row of none", w, 0);
            BestWalks line = withDay("jab01jbc01jcd01jde01jef01jfg01eag");
            is("a row of seven", line.best(4, 1), 7);
            rowIs("a row of seven", line, 6, 0, 1, 2, 3, 4, 5, 6);
            is("numbers of the ROW", line.count(7), 8);
        });
        sentence(17, "-2: there are fewer", () -> {
            BestWalks w = eight();
            is("best(3, 8)", w.best(3, 8), 3);
            is("best(3, 9)", w.best(3, 9), -2);
            is("best(3, 400)", w.best(3, 400), -2);
            is("best(4, 1) of none", w.best(4, 1), -2);
            is("best(4, 400) of none", w.best(4, 400), -2);
            rowIs("these", w, 24, 0, 1, 2);
            is("best(0, 217) of 216", choices("1,2,3,4,5,6", "1,2,3,4,5,6", "1,2,3,4,5,6").best(0, 217), -2);
        });
        sentence(17, "NONE: others.", () -> {
            BestWalks w = eight();
            w.best(3, 8);
            for (int kind : NO_KINDS) {
                is("best(" + kind + ", 1)", w.best(kind, 1), -1);
                is("best(" + kind + ", 400)", w.best(kind, 400), -1);
            }
            for (int k : new int[] {0, -1, 401, LEAST, GREATEST}) {
                is("best(3, " + k + ")", w.best(3, k), -1);
                is("best(4, " + k + ") of none", w.best(4, k), -1);
            }
            rowIs("these", w, 24, 0, 1, 2);
        });
    }

    // ---- promise 18

    private static void many() {
        sentence(18, "How many there are of a KIND: how many", () -> {
            is("many(0)", full().many(0), 1296);
            is("many(1)", twelveEdges().many(1), 432);
            is("many(2)", withDay("z5").many(2), 120);
            is("many(3)", full().many(3), 64);
            for (int kind = 0; kind < 4; kind++) {
                is("many(" + kind + ") of nothing", new BestWalks().many(kind), 1);
            }
            is("many(4) of nothing", new BestWalks().many(4), 0);
        });
        sentence(18, "the ROW: the least COST, how many have it, the greatest COST", () -> {
            BestWalks w = full();
            w.many(0);
            rowIs("many(0)", w, 4, 1, 24);
            rule(w, "-(s=24)");
            w.many(0);
            rowIs("one is least", w, -1, 1, 0);
            rule(w, "s=24");
            w.many(0);
            rowIs("one is greatest", w, 0, 1295, 1);
            rule(w, "7");
            w.many(0);
            rowIs("all are equal", w, 7, 1296, 7);
            rule(w, "128*256*256*256-(s=24)");
            w.many(0);
            rowIs("the least and the greatest int", w, LEAST, 1295, GREATEST);
            BestWalks none = new BestWalks();
            none.many(2);
            rowIs("one alone", none, 0, 1, 0);
        });
        sentence(18, "(nothing without)", () -> {
            BestWalks w = eight();
            w.best(3, 8);
            is("many(4)", w.many(4), 0);
            rowIs("many(4)", w);
            rowThrows(w, 0);
            BestWalks apart = withDay("jab01jcd01");
            apart.many(0);
            is("many(1)", apart.many(1), 0);
            rowIs("many(1)", apart);
        });
        sentence(18, "NONE: none such.", () -> {
            BestWalks w = eight();
            w.best(3, 8);
            for (int kind : NO_KINDS) {
                is("many(" + kind + ")", w.many(kind), -1);
            }
            rowIs("these", w, 24, 0, 1, 2);
        });
    }

    // ---- promise 19

    private static void below() {
        sentence(19, "How many of a KIND have COST c or less: how many; the ROW: the greatest COST of these", () -> {
            BestWalks w = eight();
            int[] due = {1, 1, 1, 1, 1, 2, 2, 3, 3, 3, 3, 3, 5, 5, 5, 5, 5, 6, 6, 7, 7, 7, 7, 7, 8, 8};
            int[] greatest = {0, 0, 0, 0, 0, 5, 5, 7, 7, 7, 7, 7, 12, 12, 12, 12, 12, 17, 17, 19, 19, 19, 19, 19, 24, 24};
            for (int c = 0; c < due.length; c++) {
                is("below(3, " + c + ")", w.below(3, c), due[c]);
                rowIs("below(3, " + c + ")", w, greatest[c]);
            }
            is("below(3, greatest)", w.below(3, GREATEST), 8);
            rowIs("below(3, greatest)", w, 24);
            rule(w, "128*256*256*256-(s=5)");
            is("below(0, least)", w.below(0, LEAST), 2);
            rowIs("below(0, least)", w, LEAST);
            is("below(0, one less than the greatest)", w.below(0, GREATEST - 1), 2);
            is("below(0, greatest)", w.below(0, GREATEST), 3);
            rowIs("below(0, greatest)", w, GREATEST);
            rule(w, "");
            BestWalks big = full();
            is("below(0, 23)", big.below(0, 23), 1295);
            is("below(0, 24)", big.below(0, 24), 1296);
        });
        sentence(19, "(nothing without)", () -> {
            BestWalks w = eight();
            w.best(3, 8);
            is("below(3, -1)", w.below(3, -1), 0);
            rowIs("below(3, -1)", w);
            w.best(3, 8);
            is("below(3, least)", w.below(3, LEAST), 0);
            rowIs("below(3, least)", w);
            w.best(3, 8);
            is("below(4, greatest) of none", w.below(4, GREATEST), 0);
            rowIs("below(4, greatest) of none", w);
        });
        sentence(19, "NONE: none such.", () -> {
            BestWalks w = eight();
            w.best(3, 8);
            for (int kind : NO_KINDS) {
                is("below(" + kind + ", 9)", w.below(kind, 9), -1);
            }
            rowIs("these", w, 24, 0, 1, 2);
        });
    }

    // ---- promise 20

    private static void rank() {
        sentence(20, "the PLACE of that one of a KIND; the ROW: its COST", () -> {
            BestWalks w = eight();
            String[] rows = {"", "a", "b", "ab", "c", "ac", "bc", "abc"};
            int[] costs = {0, 5, 7, 12, 12, 17, 19, 24};
            for (int i = 0; i < 8; i++) {
                is("rank(3) of " + rows[i], rank(w, 3, rows[i]), i + 1);
                rowIs("rank(3) of " + rows[i], w, costs[i]);
            }
            is("rank(0) beyond 400", rank(full(), 0, "ffff"), 1296);
            BestWalks none = new BestWalks();
            for (int kind = 0; kind < 4; kind++) {
                is("rank(" + kind + ") of none", rank(none, kind, ""), 1);
                rowIs("rank(" + kind + ") of none", none, 0);
            }
        });
        sentence(20, "THE TEXT is a row (letters a .. l: 0 .. 11; 8 at most)", () -> {
            BestWalks w = twelveEdges();
            is("l is EDGE 11", rank(w, 1, "abcdel"), 4);
            BestWalks line = withDay("jab01jbc01jcd01jde01jef01jfg01eag");
            is("seven letters", rank(line, 4, "abcdefg"), 1);
            is("eight letters", rank(line, 4, "abcdefga"), -100);
            is("eight letters l", rank(line, 4, "llllllll"), -100);
        });
        sentence(20, "-100: there is none such", () -> {
            BestWalks w = eight();
            for (String row : new String[] {"d", "ba", "aa", "abcd", "abcdefgh", "l"}) {
                is("rank(3) of " + row, rank(w, 3, row), -100);
            }
            is("rank(0) of none, where one is due", rank(w, 0, ""), -100);
            is("rank(0) of two, where one is due", rank(w, 0, "aa"), -100);
            is("rank(0) of d", rank(w, 0, "d"), -100);
            is("rank(4) without ROUTES", rank(w, 4, "ab"), -100);
            is("rank(4) without ROUTES", rank(w, 4, ""), -100);
            BestWalks pairs = withDay("z2");
            is("rank(2) of aa", rank(pairs, 2, "aa"), -100);
            is("rank(2) of abc", rank(pairs, 2, "abc"), -100);
        });
        sentence(20, "-101: no such KIND (asked ahead of -100).", () -> {
            for (int kind : NO_KINDS) {
                BestWalks w = eight();
                is("rank(" + kind + ") of a", rank(w, kind, "a"), -101);
                is("rank(" + kind + ") of llll", rank(w, kind, "llll"), -101);
                is("rank(" + kind + ") of none", rank(w, kind, ""), -101);
            }
        });
    }

    private static void rankFaults() {
        sentence(20, "-1 - p: the sign at p can't stand there (asked first", () -> {
            BestWalks w = eight();
            for (int c = 0; c < 256; c++) {
                boolean stands = c >= 'a' && c <= 'l';
                is("sign " + c + " first", rank(w, 9, "" + (char) c), stands ? -101 : -1);
                is("sign " + c + " second", rank(w, 9, "a" + (char) c), stands ? -101 : -2);
                is("sign " + c + " eighth", rank(w, 9, "abcdefg" + (char) c), stands ? -101 : -8);
            }
            is("of a KIND that is", rank(w, 3, "abm"), -3);
            is("of a row that is not", rank(w, 3, "ll!"), -3);
        });
        sentence(20, "a ninth, too)", () -> {
            BestWalks w = eight();
            is("nine", rank(w, 3, "abcdefgha"), -9);
            is("nine, the ninth is no letter", rank(w, 3, "abcdefgh!"), -9);
            is("nine of no KIND", rank(w, 9, "abcdefgha"), -9);
            is("80", rank(w, 3, times("a", 80)), -9);
            is("a fault ahead of a ninth", rank(w, 3, "abcdefg!a"), -8);
            is("eight", rank(w, 3, "abcdefgh"), -100);
        });
        sentence(20, "(THE TEXT is emptied, the ROW stays with these)", () -> {
            BestWalks w = eight();
            rank(w, 3, "abc");
            is("count(8)", w.count(8), 0);
            w.best(3, 8);
            rank(w, 3, "!");
            is("count(8) behind -1 - p", w.count(8), 0);
            rank(w, 3, "l");
            is("count(8) behind -100", w.count(8), 0);
            rank(w, 9, "a");
            is("count(8) behind -101", w.count(8), 0);
            rowIs("these", w, 24, 0, 1, 2);
        });
    }

    // ---- promise 21

    private static void alike() {
        sentence(21, "How many of a KIND have the COST of that at PLACE k (1 .. 400): how many", () -> {
            BestWalks w = eight();
            int[] due = {1, 1, 1, 2, 2, 1, 1, 1};
            int[] first = {1, 2, 3, 4, 4, 6, 7, 8};
            for (int k = 1; k <= 8; k++) {
                is("alike(3, " + k + ")", w.alike(3, k), due[k - 1]);
                rowIs("alike(3, " + k + ")", w, first[k - 1], first[k - 1] + due[k - 1] - 1);
            }
            BestWalks big = full();
            rule(big, "0");
            is("alike(0, 1)", big.alike(0, 1), 1296);
            rowIs("alike(0, 1)", big, 1, 1296);
            is("alike(0, 400)", big.alike(0, 400), 1296);
            rowIs("alike(0, 400)", big, 1, 1296);
            is("alike(0, 401)", big.alike(0, 401), -1);
            is("alike(0, 0)", big.alike(0, 0), -1);
        });
        sentence(21, "-2: there are fewer", () -> {
            BestWalks w = eight();
            w.best(3, 8);
            is("alike(3, 9)", w.alike(3, 9), -2);
            is("alike(3, 400)", w.alike(3, 400), -2);
            is("alike(4, 1) of none", w.alike(4, 1), -2);
            rowIs("these", w, 24, 0, 1, 2);
            is("alike(0, 400) of 400", fourHundred().alike(0, 400), 400);
        });
        sentence(21, "NONE: others.", () -> {
            BestWalks w = eight();
            w.best(3, 8);
            for (int kind : NO_KINDS) {
                is("alike(" + kind + ", 1)", w.alike(kind, 1), -1);
                is("alike(" + kind + ", 9)", w.alike(kind, 9), -1);
            }
            for (int k : new int[] {0, -1, 401, LEAST, GREATEST}) {
                is("alike(3, " + k + ")", w.alike(3, k), -1);
                is("alike(4, " + k + ") of none", w.alike(4, k), -1);
            }
            rowIs("these", w, 24, 0, 1, 2);
        });
    }

    // ---- promise 22

    private static void surely() {
        sentence(22, "Places (0, 1, ..; bits) of rows at which all of a KIND that have the least COST have the same number", () -> {
            BestWalks w = withLists("1,1", "5,6", "3,3,3", "7");
            is("surely(0)", w.surely(0), 2 + 8);
            rowIs("surely(0)", w, 2);
            is("surely(3), one has the least", w.surely(3), 0);
            rowIs("surely(3)", w, 0);
            BestWalks line = withDay("jab01jbc01jcd01jde01jef01jfg01eag");
            is("surely(4) of one", line.surely(4), 127);
            rowIs("surely(4) of one", line, 7);
            is("surely(1) of one", line.surely(1), 63);
            rowIs("surely(1) of one", line, 6);
            BestWalks ring = withDay("jab01jbc01jcd01jda02");
            // the EDGE of 2 is number 1 of ab, ad, bc, cd
            is("surely(1)", ring.surely(1), 7);
            BestWalks ways = withDay("jac01jcb01jad01jdb01jae01jef01jfb01");
            // a c b and a d b have the least, a e f b has not
            is("surely(4)", ways.surely(4), 1 + 4);
            rowIs("surely(4)", ways, 2);
        });
        sentence(22, "(all have one there)", () -> {
            BestWalks w = withLists("0,5");
            // none and the 0 have the least
            is("surely(3)", w.surely(3), 0);
            rowIs("surely(3)", w, 0);
            BestWalks ways = withDay("jab02jac01jcb01");
            // a b and a c b: the first alone is in both the same
            is("surely(4)", ways.surely(4), 1);
            rowIs("surely(4)", ways, 1);
            BestWalks none = new BestWalks();
            is("surely(0) of an empty row", none.surely(0), 0);
            rowIs("surely(0) of an empty row", none, 0);
        });
        sentence(22, "-2: there is none of it", () -> {
            BestWalks w = withDay("jab01jcd01");
            w.best(3, 1);
            w.ends(4, 5);
            is("surely(1)", w.surely(1), -2);
            is("surely(4)", w.surely(4), -2);
            rowIs("these", w, 0);
        });
        sentence(22, "NONE: none such.", () -> {
            BestWalks w = eight();
            w.best(3, 8);
            for (int kind : NO_KINDS) {
                is("surely(" + kind + ")", w.surely(kind), -1);
            }
            rowIs("these", w, 24, 0, 1, 2);
        });
    }

    // ---- promise 23

    private static void having() {
        sentence(23, "How many of a KIND have number v (0 .. 11) at place i (0 .. 7) of their row (is 1)", () -> {
            BestWalks w = eight();
            is("having(3, 0, 0, 1)", w.having(3, 0, 0, 1), 4);
            rowIs("having(3, 0, 0, 1)", w, 2, 5);
            is("having(3, 0, 2, 1)", w.having(3, 0, 2, 1), 1);
            rowIs("having(3, 0, 2, 1)", w, 5, 12);
            is("having(3, 2, 2, 1)", w.having(3, 2, 2, 1), 1);
            rowIs("having(3, 2, 2, 1)", w, 8, 24);
            BestWalks trees = twelveEdges();
            is("having 11 at 5", trees.having(1, 5, 11, 1) > 0, true);
            trees.having(1, 5, 11, 1);
            rowIs("having 11 at 5", trees, 4, 6);
            BestWalks line = withDay("jab01jbc01jcd01jde01jef01jfg01eag");
            is("having 6 at 6", line.having(4, 6, 6, 1), 1);
            is("having 0 at 7", line.having(4, 7, 0, 1), 0);
            is("having 11 at 7", line.having(4, 7, 11, 1), 0);
            is("having 0 at 0", line.having(4, 0, 0, 1), 1);
        });
        sentence(23, "or not, or no such place (is 0)", () -> {
            BestWalks w = eight();
            is("having(3, 0, 0, 0)", w.having(3, 0, 0, 0), 4);
            rowIs("having(3, 0, 0, 0)", w, 1, 0);
            is("having(3, 1, 1, 0)", w.having(3, 1, 1, 0), 6);
            is("having(3, 2, 2, 0)", w.having(3, 2, 2, 0), 7);
            is("having(3, 7, 11, 0)", w.having(3, 7, 11, 0), 8);
            rowIs("having(3, 7, 11, 0)", w, 1, 0);
            BestWalks one = withLists("5");
            is("having(0, 0, 0, 0)", one.having(0, 0, 0, 0), 0);
            rowIs("having(0, 0, 0, 0)", one);
        });
        sentence(23, "the ROW: PLACE and COST of the first of them (nothing without)", () -> {
            BestWalks w = eight();
            w.best(3, 8);
            is("having(3, 0, 3, 1)", w.having(3, 0, 3, 1), 0);
            rowIs("having(3, 0, 3, 1)", w);
            w.best(3, 8);
            is("having(4, 0, 0, 1) of none", w.having(4, 0, 0, 1), 0);
            rowIs("having(4, 0, 0, 1) of none", w);
            w.best(3, 8);
            is("having(4, 0, 0, 0) of none", w.having(4, 0, 0, 0), 0);
            rowIs("having(4, 0, 0, 0) of none", w);
            BestWalks big = full();
            rule(big, "s*(f>5)");
            is("having(0, 0, 5, 1)", big.having(0, 0, 5, 1), 216);
            rowIs("the first is beyond 400", big, 1081, 9);
        });
        sentence(23, "NONE: others.", () -> {
            BestWalks w = eight();
            w.best(3, 8);
            for (int kind : NO_KINDS) {
                is("kind", w.having(kind, 0, 0, 1), -1);
                is("kind", w.having(kind, 0, 0, 0), -1);
            }
            for (int i : new int[] {-1, 8, LEAST, GREATEST}) {
                is("i", w.having(3, i, 0, 1), -1);
                is("i", w.having(3, i, 0, 0), -1);
            }
            for (int v : new int[] {-1, 12, LEAST, GREATEST}) {
                is("v", w.having(3, 0, v, 1), -1);
                is("v", w.having(3, 0, v, 0), -1);
                is("v at a place that no row has", w.having(3, 7, v, 1), -1);
            }
            for (int is : new int[] {-1, 2, LEAST, GREATEST}) {
                is("is", w.having(3, 0, 0, is), -1);
            }
            rowIs("these", w, 24, 0, 1, 2);
        });
    }

    // ---- promise 24

    private static void differ() {
        sentence(24, "At how many places (0, 1, ..) rows of those of a KIND at PLACES a and b (1 .. 400) differ", () -> {
            BestWalks w = full();
            rule(w, "0");
            is("differ(0, 1, 2)", w.differ(0, 1, 2), 1);
            rowIs("differ(0, 1, 2)", w, 3);
            is("differ(0, 1, 260)", w.differ(0, 1, 260), 4);
            rowIs("differ(0, 1, 260)", w, 0);
            is("differ(0, 400, 1)", w.differ(0, 400, 1), 3);
            rowIs("differ(0, 400, 1)", w, 0);
            is("differ(0, 1, 400)", w.differ(0, 1, 400), 3);
            is("differ(0, 1, 401)", w.differ(0, 1, 401), -1);
            is("differ(0, 401, 1)", w.differ(0, 401, 1), -1);
            is("differ(0, 1, 0)", w.differ(0, 1, 0), -1);
            is("differ(0, 0, 1)", w.differ(0, 0, 1), -1);
            is("differ(0, 7, 1)", w.differ(0, 7, 1), 1);
            rowIs("differ(0, 7, 1)", w, 2);
        });
        sentence(24, "(one that is longer: at all that the other one has not)", () -> {
            BestWalks w = withLists("1,2,4,8,16,32");
            is("none and all", w.differ(3, 1, 64), 6);
            rowIs("none and all", w, 0);
            is("all and none", w.differ(3, 64, 1), 6);
            rowIs("all and none", w, 0);
            is("the first and all", w.differ(3, 2, 64), 5);
            rowIs("the first and all", w, 1);
            is("five and all", w.differ(3, 64, 32), 1);
            rowIs("five and all", w, 5);
            BestWalks ways = withDay("jag01jab01jbc01jcd01jde01jef01jfg01eag");
            is("two and seven NODES", ways.differ(4, 1, 2), 6);
            rowIs("two and seven NODES", ways, 1);
        });
        sentence(24, "the ROW: the first such place (nothing without)", () -> {
            BestWalks w = eight();
            w.best(3, 8);
            is("differ(3, 1, 1)", w.differ(3, 1, 1), 0);
            rowIs("differ(3, 1, 1)", w);
            w.best(3, 8);
            is("differ(3, 8, 8)", w.differ(3, 8, 8), 0);
            rowIs("differ(3, 8, 8)", w);
        });
        sentence(24, "-2: there are fewer", () -> {
            BestWalks w = eight();
            w.best(3, 8);
            is("differ(3, 9, 1)", w.differ(3, 9, 1), -2);
            is("differ(3, 1, 9)", w.differ(3, 1, 9), -2);
            is("differ(3, 9, 9)", w.differ(3, 9, 9), -2);
            is("differ(3, 400, 400)", w.differ(3, 400, 400), -2);
            is("differ(4, 1, 1) of none", w.differ(4, 1, 1), -2);
            rowIs("these", w, 24, 0, 1, 2);
            is("differ(3, 8, 1)", w.differ(3, 8, 1), 3);
        });
        sentence(24, "NONE: others.", () -> {
            BestWalks w = eight();
            w.best(3, 8);
            for (int kind : NO_KINDS) {
                is("kind", w.differ(kind, 1, 1), -1);
                is("kind", w.differ(kind, 1, 9), -1);
            }
            for (int k : new int[] {0, -1, 401, LEAST, GREATEST}) {
                is("a " + k, w.differ(3, k, 1), -1);
                is("b " + k, w.differ(3, 1, k), -1);
                is("a " + k + ", b too great", w.differ(3, k, 9), -1);
                is("a too great, b " + k, w.differ(3, 9, k), -1);
                is("a " + k + " of none", w.differ(4, k, 1), -1);
            }
            rowIs("these", w, 24, 0, 1, 2);
        });
    }

    // ---- promise 25

    private static void gap() {
        sentence(25, "By how much COST of a KIND at PLACE k and 1 (k 1 .. 399) is more than at PLACE k: 0", () -> {
            BestWalks w = eight();
            int[] due = {5, 2, 5, 0, 5, 2, 5};
            for (int k = 1; k <= 7; k++) {
                is("gap(3, " + k + ")", w.gap(3, k), 0);
                rowIs("gap(3, " + k + ")", w, due[k - 1]);
            }
            BestWalks big = full();
            rule(big, "f*216+n*0");
            is("gap(0, 216)", big.gap(0, 216), 0);
            rowIs("gap(0, 216)", big, 216);
            is("gap(0, 399)", big.gap(0, 399), 0);
            rowIs("gap(0, 399)", big, 0);
            is("gap(0, 400)", big.gap(0, 400), -1);
            is("gap(0, 0)", big.gap(0, 0), -1);
            is("gap(0, 399) of 400", fourHundred().gap(0, 399), 0);
        });
        sentence(25, "the ROW: it (not cut to an int)", () -> {
            BestWalks w = withLists("1,2");
            rule(w, "128*256*256*256-(s=2)");
            is("gap(0, 1)", w.gap(0, 1), 0);
            rowIs("gap(0, 1)", w, 4294967295L);
            rule(w, "128*256*256*256*(s=2)");
            w.gap(0, 1);
            rowIs("gap(0, 1)", w, 2147483648L);
        });
        sentence(25, "-2: there are fewer", () -> {
            BestWalks w = eight();
            w.best(3, 8);
            is("gap(3, 8)", w.gap(3, 8), -2);
            is("gap(3, 9)", w.gap(3, 9), -2);
            is("gap(3, 399)", w.gap(3, 399), -2);
            is("gap(4, 1) of none", w.gap(4, 1), -2);
            is("gap(2, 1) of one", w.gap(2, 1), -2);
            rowIs("these", w, 24, 0, 1, 2);
        });
        sentence(25, "NONE: others.", () -> {
            BestWalks w = eight();
            w.best(3, 8);
            for (int kind : NO_KINDS) {
                is("gap(" + kind + ", 1)", w.gap(kind, 1), -1);
                is("gap(" + kind + ", 8)", w.gap(kind, 8), -1);
            }
            for (int k : new int[] {0, -1, 400, 401, LEAST, GREATEST}) {
                is("gap(3, " + k + ")", w.gap(3, k), -1);
                is("gap(4, " + k + ") of none", w.gap(4, k), -1);
            }
            rowIs("these", w, 24, 0, 1, 2);
        });
    }
}

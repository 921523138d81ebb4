/** The boundaries that the document's Terms name, and those of a new object. */
public final class TermBoundaries extends Sentences {
    public static void main(String[] args) {
        things();
        kinds();
        costs();
        order();
        theRule();
        theRuleOfNone();
        termTwo();
        sentence(1, "Nothing is there.", TermBoundaries::nothingIsThere);
        sentence(1, "Nothing is there. (in another object)", TermBoundaries::objectsAreApart);
        finish("TermBoundaries");
    }

    // ---- LISTS, NODES, EDGES, TABLE, ENDS, PICKED

    private static void things() {
        sentence(0, "LISTS 0 .. 3", () -> {
            BestWalks w = new BestWalks();
            is("puts(0, 1)", w.puts(0, 1), 0);
            is("puts(3, 1)", w.puts(3, 1), 0);
            is("puts(-1, 1)", w.puts(-1, 1), -1);
            is("puts(4, 1)", w.puts(4, 1), -1);
            is("count(0)", w.count(0), 2);
        });
        sentence(0, "each of at most 6 NUMBERS", () -> {
            for (int x = 0; x < 4; x++) {
                BestWalks w = new BestWalks();
                for (int i = 0; i < 6; i++) {
                    is("puts of number " + (i + 1), w.puts(x, 9), i);
                }
                is("puts of a seventh", w.puts(x, 9), -2);
                is("count(0)", w.count(0), 6);
            }
            is("all four are full", full().count(0), 24);
        });
        sentence(0, "NUMBERS 0 .. 99", () -> {
            BestWalks w = new BestWalks();
            is("puts(0, 0)", w.puts(0, 0), 0);
            is("puts(0, 99)", w.puts(0, 99), 1);
            is("puts(0, -1)", w.puts(0, -1), -1);
            is("puts(0, 100)", w.puts(0, 100), -1);
            numbersAre(w, 0, 0, 99);
        });
        sentence(0, "kept rising", () -> {
            BestWalks w = new BestWalks();
            for (int v : new int[] {50, 99, 0, 50, 7, 98}) {
                w.puts(2, v);
            }
            numbersAre(w, 2, 0, 7, 50, 50, 98, 99);
            list(w, 2, "99,98,50,50,7,0");
            numbersAre(w, 2, 0, 7, 50, 50, 98, 99);
            w.takes(2, 2);
            numbersAre(w, 2, 0, 7, 50, 98, 99);
        });
        sentence(0, "(at first none)", () -> {
            for (int x = 0; x < 4; x++) {
                numberThrows(new BestWalks(), x, 0);
            }
        });
        sentence(0, "NODES 0 .. 6", () -> {
            BestWalks w = new BestWalks();
            is("joins(0, 6, 1)", w.joins(0, 6, 1), 1);
            is("joins(6, 7, 1)", w.joins(6, 7, 1), -1);
            is("joins(7, 6, 1)", w.joins(7, 6, 1), -1);
            is("joins(-1, 0, 1)", w.joins(-1, 0, 1), -1);
            is("joins(0, -1, 1)", w.joins(0, -1, 1), -1);
            edgesAre(w, 0, 6, 1);
        });
        sentence(0, "(in texts a .. g)", () -> {
            BestWalks w = new BestWalks();
            is("day jag01ega", day(w, "jag01ega"), 2);
            edgesAre(w, 0, 6, 1);
            is("count(4)", w.count(4), 60);
            is("day jah01", day(w, "jah01"), -3);
            is("day j`a01", day(w, "j`a01"), -2);
        });
        sentence(0, "EDGES: at most 12", () -> {
            BestWalks w = twelveEdges();
            is("count(1)", w.count(1), 12);
            is("joins of a thirteenth", w.joins(0, 1, 1), -3);
            is("count(1)", w.count(1), 12);
            is("edge(11, 0)", w.edge(11, 0), 2);
            is("edge(11, 1)", w.edge(11, 1), 6);
            edgeThrows(w, 12, 0);
        });
        sentence(0, "each between two different NODES", () -> {
            BestWalks w = new BestWalks();
            for (int node = 0; node < 7; node++) {
                is("joins of one node", w.joins(node, node, 1), -1);
            }
            is("count(1)", w.count(1), 0);
        });
        sentence(0, "with a WEIGHT 1 .. 99", () -> {
            BestWalks w = new BestWalks();
            is("joins(0, 1, 1)", w.joins(0, 1, 1), 1);
            is("joins(0, 2, 99)", w.joins(0, 2, 99), 2);
            is("joins(0, 3, 100)", w.joins(0, 3, 100), -1);
            is("joins(0, 3, -1)", w.joins(0, 3, -1), -1);
            edgesAre(w, 0, 1, 1, 0, 2, 99);
        });
        sentence(0, "at most one between the same two", () -> {
            BestWalks w = new BestWalks();
            is("joins(1, 3, 5)", w.joins(1, 3, 5), 1);
            is("joins(3, 1, 7)", w.joins(3, 1, 7), 1);
            edgesAre(w, 1, 3, 7);
        });
        sentence(0, "numbered 0, 1, .. by their lesser NODE, of these by the other one", () -> {
            BestWalks w = new BestWalks();
            w.joins(6, 5, 1);
            w.joins(2, 1, 2);
            w.joins(6, 0, 3);
            w.joins(1, 6, 4);
            w.joins(0, 1, 5);
            edgesAre(w, 0, 1, 5, 0, 6, 3, 1, 2, 2, 1, 6, 4, 5, 6, 1);
        });
        sentence(0, "TABLE: COSTS 0 .. 99 by person and job, 0 .. 4 (at first 0)", () -> {
            is("at first", table(new BestWalks()), "table" + times(" 0", 25));
            BestWalks w = new BestWalks();
            for (int i = 0; i < 25; i++) {
                is("costs", w.costs(i / 5, i % 5, 75 + i), 0);
            }
            StringBuilder due = new StringBuilder("table");
            for (int i = 0; i < 25; i++) {
                due.append(' ').append(75 + i);
            }
            is("each has its own", table(w), due.toString());
            is("costs(5, 0, 0)", w.costs(5, 0, 0), -1);
            is("costs(0, 5, 0)", w.costs(0, 5, 0), -1);
            is("costs(-1, 0, 0)", w.costs(-1, 0, 0), -1);
            is("costs(0, -1, 0)", w.costs(0, -1, 0), -1);
            is("costs(0, 0, -1)", w.costs(0, 0, -1), -1);
            is("costs(0, 0, 100)", w.costs(0, 0, 100), -1);
        });
        sentence(0, "SIZE 0 .. 5 (at first 0)", () -> {
            BestWalks w = new BestWalks();
            is("count(2)", w.count(2), 0);
            is("sets(0, 5)", w.sets(0, 5), 10);
            is("sets(0, 6)", w.sets(0, 6), -1);
            is("sets(0, -1)", w.sets(0, -1), -1);
            is("sets(0, 0)", w.sets(0, 0), 15);
        });
        sentence(0, "ENDS: two different NODES (at first 0, 1)", () -> {
            BestWalks w = new BestWalks();
            is("count(4)", w.count(4), 1);
            is("ends(4, 4)", w.ends(4, 4), -1);
            is("count(4)", w.count(4), 1);
        });
        sentence(0, "PICKED: a LIST (at first 0)", () -> {
            BestWalks w = withLists("5", "", "", "6,7");
            is("count(3)", w.count(3), 0);
            is("many(3)", w.many(3), 2);
            is("sets(1, 3)", w.sets(1, 3), 10);
            is("many(3)", w.many(3), 4);
            is("sets(1, 4)", w.sets(1, 4), -1);
        });
    }

    // ---- KINDS

    private static void kinds() {
        sentence(0, "0 CHOICES: a NUMBER of each LIST that is not empty", () -> {
            BestWalks none = new BestWalks();
            is("many(0) of no LISTS", none.many(0), 1);
            is("best(0, 1) of no LISTS", none.best(0, 1), 0);
            BestWalks w = withLists("", "4,5", "", "6");
            is("many(0)", w.many(0), 2);
            is("best(0, 2)", w.best(0, 2), 2);
            rowIs("best(0, 2)", w, 11, 1, 0);
            is("many(0), all are full", full().many(0), 1296);
            BestWalks one = withLists("", "", "", "1,2,3,4,5,6");
            is("many(0) of the last LIST alone", one.many(0), 6);
            one.best(0, 6);
            rowIs("best(0, 6)", one, 6, 5);
        });
        sentence(0, "by LISTS its place (0, 1, ..) in it", () -> {
            BestWalks w = withLists("1,2", "", "10,20,30", "40");
            w.best(0, 6);
            rowIs("best(0, 6)", w, 72, 1, 2, 0);
            BestWalks last = full();
            last.opens(0, 0);
            last.skips(0, 400);
            last.skips(0, 400);
            last.skips(0, 400);
            last.skips(0, 95);
            last.goes(0);
            rowIs("the last CHOICE", last, 24, 5, 5, 5, 5);
        });
        sentence(0, "1 TREES: EDGES by which all NODES that have an EDGE hang together", () -> {
            BestWalks w = withDay("jab01jcd01");
            is("many(1), two apart", w.many(1), 0);
            rowIs("many(1), two apart", w);
            day(w, "jbc05");
            is("many(1), joined", w.many(1), 1);
            rowIs("many(1), joined", w, 7, 1, 7);
            BestWalks apart = withDay("jab01jbc01jac01jef01jfg01jeg01");
            is("many(1), two triangles apart", apart.many(1), 0);
            BestWalks far = withDay("jcd01jde01jce01");
            is("many(1), NODES without an EDGE are left aside", far.many(1), 3);
        });
        sentence(0, "one fewer than these", () -> {
            BestWalks ring = withDay("jab01jbc01jcd01jde01jef01jfg01jga01");
            is("many(1) of a ring of 7", ring.many(1), 7);
            is("best(1, 1)", ring.best(1, 1), 6);
            BestWalks one = withDay("jfg09");
            is("best(1, 1) of one EDGE", one.best(1, 1), 1);
            rowIs("best(1, 1) of one EDGE", one, 9, 0);
            is("many(1) of twelve", twelveEdges().many(1), 432);
        });
        sentence(0, "(no EDGES at all: one with none)", () -> {
            BestWalks w = new BestWalks();
            is("many(1)", w.many(1), 1);
            rowIs("many(1)", w, 0, 1, 0);
            is("best(1, 1)", w.best(1, 1), 0);
            rowIs("best(1, 1)", w, 0);
            BestWalks gone = withDay("jab05jab00");
            is("many(1) when the last one went", gone.many(1), 1);
        });
        sentence(0, "their numbers, rising", () -> {
            BestWalks w = twelveEdges();
            for (int k = 1; k <= 40; k++) {
                w.best(1, k);
                for (int i = 1; i < 6; i++) {
                    is("rising at " + k, w.row(i) < w.row(i + 1), true);
                }
            }
        });
        sentence(0, "2 PAIRINGS: to each person below SIZE one job below SIZE, each job once", () -> {
            int[] due = {1, 1, 2, 6, 24, 120};
            BestWalks w = new BestWalks();
            for (int size = 5; size >= 0; size--) {
                w.sets(0, size);
                is("many(2) of SIZE " + size, w.many(2), due[size]);
                is("best(2, 1) of SIZE " + size, w.best(2, 1), size);
            }
            BestWalks two = withDay("z2c0010c0120c1030c1149c2299c0299c2099");
            two.best(2, 1);
            rowIs("best(2, 1)", two, 50, 1, 0);
            two.best(2, 2);
            rowIs("best(2, 2)", two, 59, 0, 1);
        });
        sentence(0, "3 SUBSETS of the LIST that is PICKED: places in it, rising (none, all, too)", () -> {
            BestWalks w = withLists("", "1,2,4,8,16,32");
            is("many(3) of an empty LIST", w.many(3), 1);
            is("best(3, 1) of an empty LIST", w.best(3, 1), 0);
            w.sets(1, 1);
            is("many(3)", w.many(3), 64);
            is("best(3, 1): none", w.best(3, 1), 0);
            rowIs("best(3, 1)", w, 0);
            is("best(3, 64): all", w.best(3, 64), 6);
            rowIs("best(3, 64)", w, 63, 0, 1, 2, 3, 4, 5);
            w.best(3, 43);
            rowIs("best(3, 43)", w, 42, 1, 3, 5);
        });
        sentence(0, "4 ROUTES: NODES from the first of ENDS to the second", () -> {
            BestWalks w = withDay("jab01jbc02jcd04jad09");
            w.ends(3, 1);
            is("many(4)", w.many(4), 2);
            w.best(4, 1);
            rowIs("best(4, 1)", w, 6, 3, 2, 1);
            w.best(4, 2);
            rowIs("best(4, 2)", w, 10, 3, 0, 1);
            w.ends(0, 6);
            is("many(4) to where no EDGE is", w.many(4), 0);
            w.ends(6, 0);
            is("many(4) from where no EDGE is", w.many(4), 0);
            is("many(4) without EDGES", new BestWalks().many(4), 0);
        });
        sentence(0, "all different, each joined to the next by an EDGE", () -> {
            BestWalks line = withDay("jab01jbc01jcd01jde01jef01jfg01eag");
            is("many(4) of a line", line.many(4), 1);
            is("best(4, 1) of a line", line.best(4, 1), 7);
            rowIs("best(4, 1) of a line", line, 6, 0, 1, 2, 3, 4, 5, 6);
            line.ends(6, 0);
            line.best(4, 1);
            rowIs("best(4, 1) the other way", line, 6, 6, 5, 4, 3, 2, 1, 0);
            BestWalks side = withDay("jab01jac01jcd01jde01jec01");
            is("many(4) with a ring aside", side.many(4), 1);
            BestWalks beyond = withDay("jab01jbc01jca01jbd01jda01");
            is("many(4): none goes on behind the second of ENDS", beyond.many(4), 3);
            BestWalks five = new BestWalks();
            for (int a = 0; a < 5; a++) {
                for (int b = a + 1; b < 5; b++) {
                    five.joins(a, b, 1);
                }
            }
            // 1 straight, 3 by one, 6 by two, 6 by three others
            is("many(4) of five NODES all joined", five.many(4), 16);
        });
    }

    // ---- COST

    private static void costs() {
        sentence(0, "of TREES and ROUTES WEIGHTS of their EDGES", () -> {
            BestWalks w = withDay("jab99jbc99jcd99jde99jef99jfg99eag");
            w.best(1, 1);
            rowIs("best(1, 1)", w, 594, 0, 1, 2, 3, 4, 5);
            w.best(4, 1);
            rowIs("best(4, 1)", w, 594, 0, 1, 2, 3, 4, 5, 6);
        });
        sentence(0, "of PAIRINGS what stands in the TABLE", () -> {
            BestWalks w = withDay("z5");
            for (int i = 0; i < 25; i++) {
                w.costs(i / 5, i % 5, 99);
            }
            w.best(2, 120);
            rowIs("best(2, 120)", w, 495, 4, 3, 2, 1, 0);
        });
        sentence(0, "of SUBSETS their NUMBERS, added up", () -> {
            BestWalks w = withLists("99,99,99,99,99,99");
            w.best(3, 64);
            rowIs("best(3, 64)", w, 594, 0, 1, 2, 3, 4, 5);
            rule(w, "-s");
            w.best(3, 64);
            rowIs("best(3, 64), THE RULE is of CHOICES alone", w, 594, 0, 1, 2, 3, 4, 5);
        });
        sentence(0, "of CHOICES by THE RULE", () -> {
            BestWalks w = withLists("99", "99", "99", "99");
            w.best(0, 1);
            rowIs("best(0, 1)", w, 396, 0, 0, 0, 0);
            rule(w, "p");
            w.best(0, 1);
            rowIs("best(0, 1)", w, 96059601, 0, 0, 0, 0);
        });
    }

    // ---- ORDER

    private static void order() {
        sentence(0, "ORDER of a KIND: by COST", () -> {
            BestWalks w = withLists("5,7,12");
            rule(w, "7-s");
            w.best(0, 1);
            rowIs("a COST below 0 is first", w, -5, 2);
            w.best(0, 3);
            rowIs("best(0, 3)", w, 2, 0);
            BestWalks wide = withLists("1,2,3");
            // 2 to the 31st is the least int, one less the greatest
            rule(wide, "128*256*256*256*(s<3)-(s=1)");
            wide.best(0, 1);
            rowIs("the least int is first", wide, Integer.MIN_VALUE, 1);
            wide.best(0, 2);
            rowIs("then 0", wide, 0, 2);
            wide.best(0, 3);
            rowIs("the greatest int is last", wide, Integer.MAX_VALUE, 0);
        });
        sentence(0, "of equal ones by their rows (compared from the first number on", () -> {
            BestWalks w = full();
            rule(w, "0");
            w.opens(0, 0);
            for (int i = 0; i < 50; i++) {
                w.goes(0);
                rowIs("goes(0)", w, 0, i / 216, i / 36 % 6, i / 6 % 6, i % 6);
            }
            BestWalks ways = withDay("jac01jcb02jad01jdb02jae02jeb01");
            ways.best(4, 1);
            rowIs("best(4, 1)", ways, 3, 0, 2, 1);
            ways.best(4, 2);
            rowIs("best(4, 2)", ways, 3, 0, 3, 1);
            ways.best(4, 3);
            rowIs("best(4, 3)", ways, 3, 0, 4, 1);
            BestWalks longer = withDay("jac01jcd01jdb01jae02jeb01");
            longer.best(4, 1);
            rowIs("a longer one is ahead by its numbers", longer, 3, 0, 2, 3, 1);
        });
        sentence(0, "(numbers above 9, too)", () -> {
            BestWalks w = twelveEdges();
            is("rank of EDGES 0 1 2 3 4 8", rank(w, 1, "abcdei"), 1);
            int nine = rank(w, 1, "abcdej");
            int ten = rank(w, 1, "abcdek");
            int eleven = rank(w, 1, "abcdel");
            is("9 is ahead of 10, 10 of 11", nine == 2 && ten == 3 && eleven == 4, true);
        });
        sentence(0, "one that ends first is ahead)", () -> {
            BestWalks w = withLists("0,0,0");
            long[][] due = {{0}, {0, 0}, {0, 0, 1}, {0, 0, 1, 2}, {0, 0, 2}, {0, 1}, {0, 1, 2}, {0, 2}};
            for (int k = 1; k <= 8; k++) {
                w.best(3, k);
                rowIs("best(3, " + k + ")", w, due[k - 1]);
            }
        });
        sentence(0, "The first has PLACE 1.", () -> {
            BestWalks w = withLists("5");
            is("best(3, 0)", w.best(3, 0), -1);
            is("best(3, 1)", w.best(3, 1), 0);
            is("rank", rank(w, 3, ""), 1);
            is("alike(3, 1)", w.alike(3, 1), 1);
            rowIs("alike(3, 1)", w, 1, 1);
        });
    }

    // ---- THE RULE

    /** The COST by a rule of the one CHOICE of lists of one number each. */
    private static int cost(String rule, String... lists) {
        BestWalks w = withLists(lists);
        is("rule " + rule, rule(w, rule), 0);
        is("best(0, 1) by " + rule, w.best(0, 1) >= 0, true);
        return (int) w.row(0);
    }

    private static void costIs(String rule, long due) {
        is("the COST by " + rule, cost(rule), due);
    }

    private static void theRule() {
        sentence(0, "THE RULE is a text of at most 40 signs", () -> {
            BestWalks w = new BestWalks();
            is("40 signs", rule(w, times("s+", 19) + "12"), 0);
            is("39 signs", rule(w, times("s+", 19) + "s"), 0);
            is("41 signs", rule(w, times("s+", 20) + "s"), -41);
        });
        sentence(0, "(at first none: s)", () -> {
            BestWalks w = withLists("5", "7", "", "9");
            w.best(0, 1);
            rowIs("best(0, 1)", w, 21, 0, 0, 0);
        });
        sentence(0, "< > = bind least (two; 1 or 0", () -> {
            costIs("2+3<6", 1);
            costIs("2+3<5", 0);
            costIs("5<2+3", 0);
            costIs("4<2+3", 1);
            costIs("2*3>5", 1);
            costIs("2*3>6", 0);
            costIs("1+2=3", 1);
            costIs("3=2+1", 1);
            costIs("3=1+1", 0);
            costIs("0-1<0", 1);
            costIs("2<-3", 0);
        });
        sentence(0, "not one behind the other)", () -> {
            BestWalks w = new BestWalks();
            is("1<2<3", rule(w, "1<2<3"), -4);
            is("1=2>3", rule(w, "1=2>3"), -4);
            is("1<2+3=4", rule(w, "1<2+3=4"), -6);
            is("(1<2=3)", rule(w, "(1<2=3)"), -5);
            is("1<(2=3)", rule(w, "1<(2=3)"), 0);
            is("(1<2)=(3>4)", rule(w, "(1<2)=(3>4)"), 0);
            is("(1<2)=3>4", rule(w, "(1<2)=3>4"), -8);
            is("1<(2=3)>4", rule(w, "1<(2=3)>4"), -8);
            is("1<<2", rule(w, "1<<2"), -3);
        });
        sentence(0, "then + - (from the left)", () -> {
            costIs("10-4-3", 3);
            costIs("10-4+3", 9);
            costIs("1-2*3", -5);
            costIs("1+6/4", 2);
        });
        sentence(0, "then * / (from the left", () -> {
            costIs("7/2*2", 6);
            costIs("2*7/4", 3);
            costIs("100/5/2", 10);
            costIs("2*3*4", 24);
        });
        sentence(0, "by 0: 0", () -> {
            costIs("7/0", 0);
            costIs("0/0", 0);
            costIs("-7/0", 0);
            costIs("7/0+5", 5);
            costIs("9/(3-3)*4", 0);
            costIs("7/-0", 0);
        });
        sentence(0, "cut to 0)", () -> {
            costIs("7/2", 3);
            costIs("-7/2", -3);
            costIs("7/-2", -3);
            costIs("-7/-2", 3);
            costIs("1/2", 0);
            costIs("-1/2", 0);
        });
        sentence(0, "then - ahead of a thing (any many)", () -> {
            costIs("-5", -5);
            costIs("--5", 5);
            costIs("---5", -5);
            costIs("2--3", 5);
            costIs("2---3", -1);
            costIs("2*-3", -6);
            costIs("-2*3", -6);
            costIs("-(2+3)", -5);
            costIs("--(2+3)", 5);
            costIs("-2+3", 1);
            costIs(times("-", 38) + "7", 7);
            costIs(times("-", 39) + "7", -7);
        });
        sentence(0, "a NUMBER of 1 to 3 digits", () -> {
            costIs("0", 0);
            costIs("9", 9);
            costIs("99", 99);
            costIs("999", 999);
            costIs("000", 0);
            costIs("007", 7);
            is("1000", rule(new BestWalks(), "1000"), -4);
            is("0001", rule(new BestWalks(), "0001"), -4);
        });
        sentence(0, "an EXPRESSION in ( ) (at most 4 in one another)", () -> {
            costIs("(((5)))", 5);
            costIs("((((5))))", 5);
            costIs("((((1))))+((((2))))", 3);
            costIs("(1+(2+(3+(4))))*2", 20);
            is("five in one another", rule(new BestWalks(), "(((((5)))))"), -5);
            is("five in one another behind four", rule(new BestWalks(), "((((1))))+(((((2)))))"), -15);
            is("four of which are closed count no more", rule(new BestWalks(), "((((1)+(2)+((3)))))"), -13);
        });
    }

    private static void theRuleOfNone() {
        sentence(0, "s their sum, m the greatest, l the least, f the first, e the last", () -> {
            String[] lists = {"7", "2", "9", "5"};
            is("s", cost("s", lists), 23);
            is("m", cost("m", lists), 9);
            is("l", cost("l", lists), 2);
            is("f", cost("f", lists), 7);
            is("e", cost("e", lists), 5);
            is("m of a first", cost("m", "9", "2"), 9);
            is("m of a last", cost("m", "2", "9"), 9);
            is("l of a first", cost("l", "2", "9"), 2);
            is("l of a last", cost("l", "9", "2"), 2);
            is("f behind empty LISTS", cost("f", "", "", "4", "5"), 4);
            is("e ahead of empty LISTS", cost("e", "4", "5", "", ""), 5);
            is("l of 0", cost("l", "0", "5"), 0);
        });
        sentence(0, "(each 0 of none)", () -> {
            for (String letter : new String[] {"s", "m", "l", "f", "e"}) {
                costIs(letter, 0);
            }
        });
        sentence(0, "p their product (1 of none)", () -> {
            costIs("p", 1);
            is("p", cost("p", "7", "2", "9", "5"), 630);
            is("p with 0", cost("p", "7", "0"), 0);
            is("p of one", cost("p", "", "7"), 7);
        });
        sentence(0, "n how many", () -> {
            costIs("n", 0);
            is("n", cost("n", "0", "", "0"), 2);
            is("n", cost("n", "1", "1", "1", "1"), 4);
        });
        sentence(0, "As ints.", () -> {
            costIs("128*256*256*256", Integer.MIN_VALUE);
            costIs("128*256*256*256-1", Integer.MAX_VALUE);
            costIs("-(128*256*256*256)", Integer.MIN_VALUE);
            costIs("128*256*256*256/-1", Integer.MIN_VALUE);
            costIs("256*256*256*256", 0);
            costIs("999*999*999*9", (int) (999L * 999 * 999 * 9));
            is("p*p", cost("p*p", "99", "99", "99", "99"), (int) (96059601L * 96059601L));
            costIs("128*256*256*256<0", 1);
            costIs("128*256*256*256-1>0", 1);
        });
    }

    // ---- Term 2

    private static void termTwo() {
        sentence(0, "Sets are bits.", () -> {
            BestWalks w = withDay("jag01jcd01");
            is("count(9)", w.count(9), 1 + 4 + 8 + 64);
            BestWalks line = withDay("jab01jbc01jcd01jde01jef01jfg01eag");
            is("surely(4)", line.surely(4), 127);
        });
        sentence(0, "Fractions are told in lowest terms, upper and lower number (0 by 1).", () -> {
            BestWalks w = withLists("1,2,3,4,5,6");
            w.odds(3, 0, 1);
            rowIs("1 of 64", w, 1, 64);
            w.odds(3, 1, 1);
            rowIs("2 of 64", w, 1, 32);
            w.odds(3, 3, 2);
            // 5 of 64: 1 less 59 * 59 by 64 * 64
            rowIs("5 of 64 twice", w, 615, 4096);
            w.odds(3, -1, 3);
            rowIs("none", w, 0, 1);
            w.odds(3, 21, 3);
            rowIs("all", w, 1, 1);
        });
    }

    private static void nothingIsThere() {
        BestWalks w = new BestWalks();
        int[] due = {0, 0, 0, 0, 1, 0, 0, 0, 0, 0};
        for (int what = 0; what < 10; what++) {
            is("count(" + what + ")", w.count(what), due[what]);
        }
        rowThrows(w, 0);
        edgeThrows(w, 0, 0);
        is("undo()", w.undo(), -1);
        is("end(1)", w.end(1), false);
        is("forget()", w.forget(), 0);
        for (int c = 0; c < 3; c++) {
            is("goes(" + c + ")", w.goes(c), -3);
            is("skips(" + c + ", 0)", w.skips(c, 0), -3);
        }
        is("again(0)", w.again(0), false);
        is("again(1)", w.again(1), false);
    }

    /** What is done to one object is not seen in another. */
    private static void objectsAreApart() {
        BestWalks one = world();
        one.keep(1);
        nothingIsThere();
        BestWalks other = new BestWalks();
        is("plain", plain(other), "[][][][][]00 1");
        is("count(0)", world().count(0), one.count(0));
    }
}

/** The boundaries that promises 35 to 40 name: law, years, keep, again, count, row. */
public final class LawBoundaries extends Sentences {
    private static final int LEAST = Integer.MIN_VALUE;
    private static final int GREATEST = Integer.MAX_VALUE;

    public static void main(String[] args) {
        law();
        lawFaults();
        years();
        yearsTold();
        yearsUndone();
        keep();
        again();
        count();
        row();
        finish("LawBoundaries");
    }

    // ---- promise 35

    private static void law() {
        sentence(35, "THE TEXT is another RULE (an empty one: none)", () -> {
            BestWalks w = withLists("5,7", "1,9");
            rule(w, "-s");
            // by -s: 7 9, 5 9, 7 1, 5 1
            is("law() of none", law(w, ""), 4);
            rowIs("law() of none", w, 6, -6);
            is("law() of s", law(w, "s"), 4);
            is("law() of -s", law(w, "-s"), 1);
            rowIs("law() of -s", w, -16, -16);
            is("40 signs", law(w, times("-", 39) + "s"), 1);
            rowIs("40 signs", w, -16, -16);
        });
        sentence(35, "PLACE, in ORDER by THE RULE, of the CHOICE that is first by it", () -> {
            BestWalks w = full();
            is("the last of all", law(w, "-s"), 1296);
            rowIs("the last of all", w, -24, 24);
            is("equal ones by their rows", law(w, "0"), 1);
            rowIs("equal ones by their rows", w, 0, 4);
            rule(w, "-s");
            is("equal ones by their rows", law(w, "0"), 1296);
            rowIs("equal ones by their rows", w, 0, -4);
            BestWalks none = new BestWalks();
            is("law() of no LISTS", law(none, "p+n"), 1);
            rowIs("law() of no LISTS", none, 1, 0);
            BestWalks ones = withLists("5", "", "7", "1,9");
            is("LISTS of one and of none", law(ones, "-p-n"), 2);
            rowIs("LISTS of one and of none", ones, -318, 21);
            BestWalks one = withLists("", "", "", "8");
            is("one LIST of one", law(one, "s*10+n"), 1);
            rowIs("one LIST of one", one, 81, 8);
            BestWalks wide = withLists("1,2,3");
            is("the least int is first", law(wide, "128*256*256*256-(s<3)"), 3);
            rowIs("the least int is first", wide, LEAST, 3);
        });
        sentence(35, "the ROW: COST of it by it, by THE RULE", () -> {
            BestWalks w = withLists("5,7", "1,9");
            is("law() of m-l", law(w, "m-l"), 4);
            rowIs("law() of m-l", w, 2, 16);
            is("law() changes THE RULE not", w.best(0, 1), 2);
            rowIs("best(0, 1)", w, 6, 0, 0);
            law(w, "x");
            w.best(0, 1);
            rowIs("best(0, 1) behind a fault", w, 6, 0, 0);
            rule(w, "m");
            law(w, "l");
            w.best(0, 1);
            rowIs("best(0, 1) by m", w, 5, 0, 0);
        });
    }

    private static void lawFaults() {
        sentence(35, "-10000 - p: the sign at p can't stand there (as rule()).", () -> {
            String[] texts = {"x", "-", "(", ")", "s+", "s<", "ss", "s)", "()", "(s", "((((s", "(((((s", "1000", "s<m<l",
                "(s<m)>l>s", times("-", 40), times("-", 41), times("-", 39) + "ss", times("-", 38) + "sss",
                times("s+", 40), "" + (char) 0, "s" + (char) 255, times("-", 38) + "1234"};
            for (String text : texts) {
                BestWalks w = withLists("5,7");
                w.best(0, 2);
                int fault = rule(new BestWalks(), text);
                is("rule() of " + text, fault < 0, true);
                is("law() of " + text, law(w, text), -10000 + fault + 1);
                rowIs("law() of " + text, w, 7, 1);
                is("count(8)", w.count(8), 0);
            }
            is("at 0", law(new BestWalks(), "x"), -10000);
            is("at 40", law(new BestWalks(), times("-", 41)), -10040);
            is("its end at 40", law(new BestWalks(), times("-", 40)), -10040);
            is("at 39", law(new BestWalks(), times("-", 38) + "sss"), -10039);
        });
    }

    // ---- promise 36

    private static void years() {
        sentence(36, "n times (1 .. 40)", () -> {
            BestWalks w = withLists("5");
            w.best(0, 1);
            for (int n : new int[] {0, -1, 41, LEAST, GREATEST}) {
                is("years(1, " + n + ")", w.years(1, n), -1);
            }
            rowIs("these", w, 5, 0);
            is("count(6)", w.count(6), 1);
            is("plain", plain(w), "[5][][][][]00 1");
            is("years(0, 1)", w.years(0, 1) > 0, true);
            numbersAre(w, 0, 5, 56);
            is("years(0, 40)", new BestWalks().years(0, 40) > 0, true);
        });
        sentence(36, "0: a DRAW of 4, a DRAW of 100: puts()", () -> {
            BestWalks w = new BestWalks();
            is("years(0, 1)", w.years(0, 1), 1);
            numbersAre(w, 0, 56);
            is("years(least, 1)", w.years(LEAST, 1), 2);
            numbersAre(w, 0, 56, 88);
            is("years(-17, 1)", w.years(-17, 1), 2);
            numbersAre(w, 3, 50);
            is("years(-19, 1)", w.years(-19, 1), 2);
            numbersAre(w, 2, 99);
        });
        sentence(36, "1: a DRAW of 4, a DRAW of 6: takes()", () -> {
            BestWalks w = full();
            is("years(16, 1)", w.years(16, 1), 1080);
            numbersAre(w, 1, 1, 3, 4, 5, 6);
            is("years(greatest, 1)", w.years(GREATEST, 1), 864);
            numbersAre(w, 1, 3, 4, 5, 6);
            is("years(-29, 1)", w.years(-29, 1), 720);
            numbersAre(w, 0, 1, 2, 3, 4, 5);
            is("years(-29, 1), there is none such", w.years(-29, 1), 720);
            numbersAre(w, 0, 1, 2, 3, 4, 5);
        });
        sentence(36, "2: a DRAW of 7, a DRAW of 7, a DRAW of 99 and 1: joins()", () -> {
            BestWalks w = new BestWalks();
            w.years(8, 1);
            edgesAre(w, 5, 6, 56);
            w.years(13, 1);
            edgesAre(w, 1, 2, 14, 5, 6, 56);
            w.years(-20, 1);
            edgesAre(w, 1, 2, 14, 4, 5, 4, 5, 6, 56);
            w.years(1, 1);
            edgesAre(w, 1, 2, 14, 4, 5, 4, 5, 6, 56);
        });
        sentence(36, "3: a DRAW of 5, a DRAW of 5, a DRAW of 100: costs()", () -> {
            BestWalks w = new BestWalks();
            w.years(10, 1);
            w.years(24, 1);
            is("the TABLE", table(w), "table 0 0 0 85" + times(" 0", 19) + " 70 0");
        });
        sentence(36, "(what is refused is not done)", () -> {
            BestWalks w = withLists("1,2,3,4,5,6");
            is("puts() to a full LIST", w.years(0, 1), 6);
            is("takes() of none", w.years(16, 1), 6);
            is("joins() of like NODES", w.years(1, 1), 6);
            is("plain", plain(w), "[1, 2, 3, 4, 5, 6][][][][]00 1");
            is("count(6)", w.count(6), 1);
            BestWalks edges = twelveEdges();
            edges.years(13, 1);
            is("joins() of a thirteenth", edges.count(1), 12);
        });
        sentence(36, "A DRAW of n: R = R times 1103515245 + 12345 (as ints; R is seed at first), (R without sign, by 65536) % n.", () -> {
            for (int seed : new int[] {LEAST, LEAST + 1, -123456789, -65536, -1, 0, 1, 65535, 65536, 987654321, GREATEST}) {
                for (int n : new int[] {1, 2, 7, 39, 40}) {
                    byItself(seed, n);
                }
            }
        });
    }

    private static long drawn;

    private static int draw(int n) {
        drawn = (drawn * 1103515245L + 12345L) & 0xffffffffL;
        return (int) (drawn / 65536 % n);
    }

    /** The same changes told by calls of their own. */
    private static void byItself(int seed, int n) {
        BestWalks w = withDay("z2p050jab01jbc07");
        BestWalks by = withDay("z2p050jab01jbc07");
        drawn = seed & 0xffffffffL;
        for (int i = 0; i < n; i++) {
            int what = draw(4);
            int a = draw(what < 2 ? 4 : what == 2 ? 7 : 5);
            int b = draw(what == 0 ? 100 : what == 1 ? 6 : what == 2 ? 7 : 5);
            switch (what) {
                case 0: by.puts(a, b); break;
                case 1: by.takes(a, b); break;
                case 2: by.joins(a, b, draw(99) + 1); break;
                default: by.costs(a, b, draw(100)); break;
            }
        }
        String name = "years(" + seed + ", " + n + ")";
        is(name, w.years(seed, n), by.many(0));
        by.many(2);
        long least = by.row(0);
        rowIs(name, w, by.many(1), by.many(4), least);
        is(name + ", plain", plain(w), plain(by));
        is(name + ", count(6)", w.count(6), by.count(6));
        is(name + ", table", table(w), table(by));
    }

    private static void yearsTold() {
        sentence(36, "how many CHOICES there are then; the ROW: how many TREES, ROUTES, the least COST of PAIRINGS then", () -> {
            BestWalks none = new BestWalks();
            // joins(5, 5, 91) is refused: all is as at first
            is("years(1, 1)", none.years(1, 1), 1);
            rowIs("years(1, 1)", none, 1, 0, 0);
            BestWalks w = full();
            day(w, "jab01jbc01jac01z2c0007c0108c1009c1120");
            is("years(1, 1)", w.years(1, 1), 1296);
            rowIs("years(1, 1)", w, 3, 2, 17);
            is("years(8, 1), an EDGE apart", w.years(8, 1), 1296);
            rowIs("years(8, 1), an EDGE apart", w, 0, 2, 17);
            is("years(24, 1)", w.years(24, 1), 1296);
            rowIs("years(24, 1), beyond SIZE", w, 0, 2, 17);
        });
        sentence(36, "NONE: another n.", () -> {
            BestWalks w = new BestWalks();
            is("years(0, 41)", w.years(0, 41), -1);
            is("years(0, 0)", w.years(0, 0), -1);
            is("count(0)", w.count(0), 0);
            is("count(7)", w.count(7), 0);
        });
    }

    private static void yearsUndone() {
        sentence(36, "(puts(), takes(), joins(), costs() of years() are undone one by one)", () -> {
            BestWalks w = new BestWalks();
            w.years(0, 1);
            w.years(8, 1);
            w.years(10, 1);
            is("count(6)", w.count(6), 3);
            is("undo() of costs()", w.undo(), 2);
            is("undo() of joins()", w.undo(), 1);
            edgesAre(w);
            is("undo() of puts()", w.undo(), 0);
            is("count(0)", w.count(0), 0);
            BestWalks more = new BestWalks();
            more.years(0, 40);
            is("ten at most", more.count(6), 10);
        });
    }

    // ---- promises 37 and 38

    private static void keep() {
        sentence(37, "What undo() brings back is kept under a number 0 .. 1: true.", () -> {
            BestWalks w = withDay("p005p106jab03c0009c4408z2k1ecd");
            String one = plain(w);
            is("keep(0)", w.keep(0), true);
            day(w, "p206jab04jbc01c4407z3k2ede");
            String two = plain(w);
            is("keep(1)", w.keep(1), true);
            day(w, "t00t10jab00z0k0eab");
            is("again(0)", w.again(0), true);
            is("as kept under 0", plain(w), one);
            is("costs(4, 4, 0)", w.costs(4, 4, 0), 8);
            is("again(1)", w.again(1), true);
            is("as kept under 1", plain(w), two);
            is("costs(4, 4, 0)", w.costs(4, 4, 0), 7);
            is("again(0), it is kept still", w.again(0), true);
            is("costs(4, 4, 0)", w.costs(4, 4, 0), 8);
        });
        sentence(37, "(kept under a number that has one already)", () -> {
            BestWalks w = withDay("p005");
            w.keep(0);
            w.keep(1);
            w.puts(0, 6);
            is("keep(0)", w.keep(0), true);
            w.puts(0, 7);
            w.again(0);
            numbersAre(w, 0, 5, 6);
            w.again(1);
            numbersAre(w, 0, 5);
        });
        sentence(37, "Refused: others.", () -> {
            BestWalks w = withDay("p005");
            w.keep(1);
            w.puts(0, 6);
            for (int i : new int[] {-1, 2, LEAST, GREATEST}) {
                is("keep(" + i + ")", w.keep(i), false);
            }
            is("again(0)", w.again(0), false);
            is("again(1)", w.again(1), true);
            numbersAre(w, 0, 5);
        });
        sentence(37, "(keep() of a new object)", () -> {
            BestWalks w = new BestWalks();
            is("keep(0)", w.keep(0), true);
            day(w, "p005jab01c0001z1k1ecd");
            is("again(0)", w.again(0), true);
            is("plain", plain(w), "[][][][][]00 1");
            is("the TABLE", table(w), "table" + times(" 0", 25));
        });
    }

    private static void again() {
        sentence(38, "It is as it was kept under a number.", () -> {
            BestWalks w = withLists("5");
            w.keep(0);
            rule(w, "-s");
            w.heard(0, 0);
            w.puts(0, 6);
            w.best(0, 1);
            tell(w, "12345");
            is("again(0)", w.again(0), true);
            rowIs("again() (it stays)", w, -6, 1);
            is("what was heard stays", w.count(5), 1);
            is("THE TEXT stays", w.count(8), 5);
            w.best(0, 1);
            rowIs("best(0, 1) by THE RULE, which stays", w, -5, 0);
            is("what can be undone", w.count(6), 0);
        });
        sentence(38, "Refused: nothing kept.", () -> {
            BestWalks w = withLists("5");
            for (int i : new int[] {0, 1, -1, 2, LEAST, GREATEST}) {
                is("again(" + i + ")", w.again(i), false);
            }
            w.keep(0);
            w.puts(0, 6);
            for (int i : new int[] {1, -1, 2, LEAST, GREATEST}) {
                is("again(" + i + ")", w.again(i), false);
            }
            numbersAre(w, 0, 5, 6);
            is("count(6)", w.count(6), 2);
        });
    }

    // ---- promises 39 and 40

    private static void count() {
        sentence(39, "What 0: NUMBERS in all LISTS, 1: EDGES, 2: SIZE, 3: PICKED, 4: 10 times the first of ENDS and the second", () -> {
            BestWalks w = full();
            is("count(0)", w.count(0), 24);
            is("count(1)", twelveEdges().count(1), 12);
            day(w, "z5k3egf");
            is("count(2)", w.count(2), 5);
            is("count(3)", w.count(3), 3);
            is("count(4)", w.count(4), 65);
            w.ends(0, 6);
            is("count(4)", w.count(4), 6);
        });
        sentence(39, "5: what was heard, 6: what can be undone, 7: numbers of the ROW, 8: signs of THE TEXT", () -> {
            BestWalks w = withDay("jab01jbc01jcd01jde01jef01jfg01eag");
            for (int i = 0; i < 11; i++) {
                w.heard(0, 0);
                w.costs(0, 0, 1);
            }
            w.best(4, 1);
            tell(w, times("x", 80));
            is("count(5)", w.count(5), 10);
            is("count(6)", w.count(6), 10);
            is("count(7)", w.count(7), 8);
            is("count(8)", w.count(8), 80);
            w.below(4, -1);
            is("count(7) of none", w.count(7), 0);
        });
        sentence(39, "9: NODES that have an EDGE (bits)", () -> {
            is("count(9) of none", new BestWalks().count(9), 0);
            is("count(9) of two", withDay("jag01").count(9), 65);
            is("count(9) of all", twelveEdges().count(9), 127);
            is("count(9) when one went", withDay("jab01jbc01jab00").count(9), 6);
        });
        sentence(39, "NONE for another what.", () -> {
            BestWalks w = full();
            for (int what : new int[] {-1, 10, 11, LEAST, GREATEST}) {
                is("count(" + what + ")", w.count(what), -1);
            }
        });
    }

    private static void row() {
        sentence(40, "Number i of the ROW.", () -> {
            BestWalks w = withDay("jab01jbc01jcd01jde01jef01jfg01eag");
            w.best(4, 1);
            is("row(0)", w.row(0), 6);
            is("row(7)", w.row(7), 6);
            is("row(1)", w.row(1), 0);
        });
        sentence(40, "NoSuchElementException: none such.", () -> {
            BestWalks w = withDay("jab01jbc01jcd01jde01jef01jfg01eag");
            BestWalks none = new BestWalks();
            w.best(4, 1);
            for (int i : new int[] {-1, 8, LEAST, GREATEST}) {
                rowThrows(w, i);
                rowThrows(none, i);
            }
            rowThrows(none, 0);
            w.best(3, 1);
            is("row(0)", w.row(0), 0);
            rowThrows(w, 1);
            w.fits(9);
            is("row(0), it stays", w.row(0), 0);
            w.having(4, 7, 0, 1);
            rowThrows(w, 0);
        });
    }
}

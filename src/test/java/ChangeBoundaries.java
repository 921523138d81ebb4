/** The boundaries that promises 9 to 16 name: puts, takes, joins, costs, sets, ends, day, undo. */
public final class ChangeBoundaries extends Sentences {
    private static final int[] FAR = {Integer.MIN_VALUE, Integer.MAX_VALUE};

    public static void main(String[] args) {
        puts();
        takes();
        joins();
        costs();
        sets();
        ends();
        dayActs();
        dayStops();
        dayFaults();
        undo();
        undoOfEach();
        undoOfRefused();
        finish("ChangeBoundaries");
    }

    // ---- promise 9

    private static void puts() {
        sentence(9, "NUMBER v (0 .. 99) comes to LIST x, behind those that are not greater: its place", () -> {
            BestWalks w = new BestWalks();
            is("puts to none", w.puts(0, 50), 0);
            is("puts of an equal one", w.puts(0, 50), 1);
            is("puts of a lesser one", w.puts(0, 49), 0);
            is("puts of a greater one", w.puts(0, 51), 3);
            is("puts of the least", w.puts(0, 0), 0);
            is("puts of the greatest", w.puts(0, 99), 5);
            numbersAre(w, 0, 0, 49, 50, 50, 51, 99);
            BestWalks like = new BestWalks();
            for (int i = 0; i < 6; i++) {
                is("puts of like ones", like.puts(3, 99), i);
            }
            for (int x = 0; x < 4; x++) {
                BestWalks each = new BestWalks();
                is("puts(" + x + ", 7)", each.puts(x, 7), 0);
                numbersAre(each, x, 7);
                is("count(0)", each.count(0), 1);
            }
        });
        sentence(9, "-2: there are 6", () -> {
            BestWalks w = withLists("", "1,2,3,4,5");
            is("puts of a sixth", w.puts(1, 9), 5);
            is("puts of a seventh", w.puts(1, 9), -2);
            is("puts of a seventh 0", w.puts(1, 0), -2);
            numbersAre(w, 1, 1, 2, 3, 4, 5, 9);
            is("count(6)", w.count(6), 3);
            is("puts to another LIST", w.puts(0, 9), 0);
            w.takes(1, 0);
            is("puts when one went", w.puts(1, 0), 0);
        });
        sentence(9, "NONE: others.", () -> {
            BestWalks w = withLists("1,2,3,4,5,6");
            int[] lists = {-1, 4, FAR[0], FAR[1]};
            int[] numbers = {-1, 100, FAR[0], FAR[1]};
            for (int x : lists) {
                is("puts(" + x + ", 5)", w.puts(x, 5), -1);
            }
            for (int v : numbers) {
                is("puts(0, " + v + ") though it is full", w.puts(0, v), -1);
                is("puts(1, " + v + ")", w.puts(1, v), -1);
            }
            is("plain", plain(w), "[1, 2, 3, 4, 5, 6][][][][]00 1");
            is("count(6)", w.count(6), 1);
        });
    }

    // ---- promise 10

    private static void takes() {
        sentence(10, "NUMBER at a place of LIST x goes: it.", () -> {
            BestWalks w = withLists("0,1,2,3,4,99");
            is("takes of the last", w.takes(0, 5), 99);
            is("takes of the first", w.takes(0, 0), 0);
            is("takes of one between", w.takes(0, 1), 2);
            numbersAre(w, 0, 1, 3, 4);
            is("takes", w.takes(0, 2), 4);
            is("takes", w.takes(0, 0), 1);
            is("takes of the only one", w.takes(0, 0), 3);
            is("count(0)", w.count(0), 0);
            BestWalks last = full();
            is("takes of another LIST", last.takes(3, 5), 6);
            is("plain", plain(last), times("[1, 2, 3, 4, 5, 6]", 3) + "[1, 2, 3, 4, 5][]00 1");
        });
        sentence(10, "NONE: none such.", () -> {
            BestWalks w = withLists("1,2", "", "", "1,2,3,4,5,6");
            is("takes(0, 2)", w.takes(0, 2), -1);
            is("takes(0, -1)", w.takes(0, -1), -1);
            is("takes(1, 0) of none", w.takes(1, 0), -1);
            is("takes(3, 6)", w.takes(3, 6), -1);
            is("takes(-1, 0)", w.takes(-1, 0), -1);
            is("takes(4, 0)", w.takes(4, 0), -1);
            for (int far : FAR) {
                is("takes(0, " + far + ")", w.takes(0, far), -1);
                is("takes(" + far + ", 0)", w.takes(far, 0), -1);
            }
            is("plain", plain(w), "[1, 2][][][1, 2, 3, 4, 5, 6][]00 1");
            is("count(6)", w.count(6), 4);
        });
    }

    // ---- promise 11

    private static void joins() {
        sentence(11, "The EDGE between two NODES has WEIGHT w (1 .. 99; it comes, if it was not there)", () -> {
            BestWalks w = new BestWalks();
            is("it comes with 1", w.joins(0, 1, 1), 1);
            is("it comes with 99", w.joins(6, 5, 99), 2);
            is("it has 99", w.joins(1, 0, 99), 2);
            is("it has 1", w.joins(5, 6, 1), 2);
            edgesAre(w, 0, 1, 99, 5, 6, 1);
            is("it has what it had", w.joins(0, 1, 99), 2);
            is("that was done", w.count(6), 5);
        });
        sentence(11, "or goes (w 0): how many EDGES there are then", () -> {
            BestWalks w = withDay("jab01jcd02jef03");
            is("joins(3, 2, 0)", w.joins(3, 2, 0), 2);
            edgesAre(w, 0, 1, 1, 4, 5, 3);
            is("joins(0, 1, 0)", w.joins(0, 1, 0), 1);
            is("joins(4, 5, 0), the last one", w.joins(4, 5, 0), 0);
            edgesAre(w);
            is("count(9)", w.count(9), 0);
        });
        sentence(11, "-2: w is 0, and it is not there", () -> {
            BestWalks w = withDay("jab01");
            is("joins(0, 2, 0)", w.joins(0, 2, 0), -2);
            is("joins(1, 2, 0)", w.joins(1, 2, 0), -2);
            w.joins(0, 1, 0);
            is("joins(0, 1, 0) a second time", w.joins(0, 1, 0), -2);
            is("count(6)", w.count(6), 2);
            is("of twelve EDGES, too", twelveEdges().joins(0, 1, 0), -2);
        });
        sentence(11, "-3: it is not there, and there are 12", () -> {
            BestWalks w = twelveEdges();
            is("a thirteenth", w.joins(0, 1, 1), -3);
            is("a thirteenth of 99", w.joins(6, 5, 99), -3);
            is("one of the twelve", w.joins(3, 0, 9), 12);
            is("one of the twelve goes", w.joins(0, 3, 0), 11);
            is("a twelfth", w.joins(0, 1, 1), 12);
            is("a thirteenth", w.joins(0, 3, 1), -3);
        });
        sentence(11, "NONE: others, like NODES.", () -> {
            for (BestWalks w : new BestWalks[] {withDay("jab07"), twelveEdges()}) {
                String before = plain(w);
                int undos = w.count(6);
                for (int far : new int[] {-1, 7, FAR[0], FAR[1]}) {
                    is("joins(" + far + ", 0, 1)", w.joins(far, 0, 1), -1);
                    is("joins(0, " + far + ", 1)", w.joins(0, far, 1), -1);
                    is("joins(" + far + ", 0, 0)", w.joins(far, 0, 0), -1);
                    is("joins(" + far + ", " + far + ", 1)", w.joins(far, far, 1), -1);
                }
                for (int weight : new int[] {-1, 100, FAR[0], FAR[1]}) {
                    is("joins(0, 1, " + weight + ")", w.joins(0, 1, weight), -1);
                    is("joins(0, 2, " + weight + ")", w.joins(0, 2, weight), -1);
                }
                for (int node = 0; node < 7; node++) {
                    is("joins of like NODES", w.joins(node, node, 1), -1);
                    is("joins of like NODES, 0", w.joins(node, node, 0), -1);
                }
                is("plain", plain(w), before);
                is("count(6)", w.count(6), undos);
            }
        });
    }

    // ---- promise 12

    private static void costs() {
        sentence(12, "COST of a person and a job becomes v (0 .. 99): what it was.", () -> {
            BestWalks w = new BestWalks();
            is("costs(0, 0, 99)", w.costs(0, 0, 99), 0);
            is("costs(4, 4, 98)", w.costs(4, 4, 98), 0);
            is("costs(0, 4, 97)", w.costs(0, 4, 97), 0);
            is("costs(4, 0, 96)", w.costs(4, 0, 96), 0);
            is("costs(0, 0, 0)", w.costs(0, 0, 0), 99);
            is("costs(4, 4, 98)", w.costs(4, 4, 98), 98);
            is("costs(0, 4, 0)", w.costs(0, 4, 0), 97);
            is("costs(4, 0, 0)", w.costs(4, 0, 0), 96);
            is("also beyond SIZE", w.count(2), 0);
            is("all were done", w.count(6), 8);
        });
        sentence(12, "NONE: others.", () -> {
            BestWalks w = new BestWalks();
            for (int far : new int[] {-1, 5, FAR[0], FAR[1]}) {
                is("costs(" + far + ", 0, 1)", w.costs(far, 0, 1), -1);
                is("costs(0, " + far + ", 1)", w.costs(0, far, 1), -1);
            }
            for (int v : new int[] {-1, 100, FAR[0], FAR[1]}) {
                is("costs(0, 0, " + v + ")", w.costs(0, 0, v), -1);
                is("costs(4, 4, " + v + ")", w.costs(4, 4, v), -1);
            }
            is("count(6)", w.count(6), 0);
            is("the TABLE", table(w), "table" + times(" 0", 25));
        });
    }

    // ---- promise 13

    private static void sets() {
        sentence(13, "What 0: SIZE becomes v (0 .. 5)", () -> {
            BestWalks w = new BestWalks();
            int was = 0;
            for (int v : new int[] {5, 4, 3, 2, 1, 0, 5, 0}) {
                is("sets(0, " + v + ")", w.sets(0, v), 10 + was);
                is("count(2)", w.count(2), v);
                is("count(3)", w.count(3), 0);
                was = v;
            }
        });
        sentence(13, "1: PICKED (0 .. 3): 10 and what it was", () -> {
            BestWalks w = new BestWalks();
            int was = 0;
            for (int v : new int[] {3, 2, 1, 0, 3, 0}) {
                is("sets(1, " + v + ")", w.sets(1, v), 10 + was);
                is("count(3)", w.count(3), v);
                is("count(2)", w.count(2), 0);
                was = v;
            }
        });
        sentence(13, "-2: it is so", () -> {
            BestWalks w = new BestWalks();
            is("sets(0, 0)", w.sets(0, 0), -2);
            is("sets(1, 0)", w.sets(1, 0), -2);
            w.sets(0, 5);
            w.sets(1, 3);
            is("sets(0, 5)", w.sets(0, 5), -2);
            is("sets(1, 3)", w.sets(1, 3), -2);
            is("sets(0, 3), what PICKED is", w.sets(0, 3), 15);
            is("count(6)", w.count(6), 3);
        });
        sentence(13, "NONE: others.", () -> {
            BestWalks w = withDay("z2k1");
            for (int v : new int[] {-1, 6, FAR[0], FAR[1]}) {
                is("sets(0, " + v + ")", w.sets(0, v), -1);
            }
            for (int v : new int[] {-1, 4, 5, FAR[0], FAR[1]}) {
                is("sets(1, " + v + ")", w.sets(1, v), -1);
            }
            for (int what : new int[] {-1, 2, FAR[0], FAR[1]}) {
                is("sets(" + what + ", 0)", w.sets(what, 0), -1);
                is("sets(" + what + ", 1)", w.sets(what, 1), -1);
                is("sets(" + what + ", 2)", w.sets(what, 2), -1);
            }
            is("SIZE, PICKED", 10 * w.count(2) + w.count(3), 21);
            is("count(6)", w.count(6), 1);
        });
    }

    // ---- promise 14

    private static void ends() {
        sentence(14, "ENDS become two NODES: 10 times the first and the second that were.", () -> {
            BestWalks w = new BestWalks();
            is("ends(6, 0)", w.ends(6, 0), 1);
            is("ends(0, 6)", w.ends(0, 6), 60);
            is("ends(5, 6)", w.ends(5, 6), 6);
            is("ends(5, 6), as they are", w.ends(5, 6), 56);
            is("that was done", w.count(6), 4);
            is("count(4)", w.count(4), 56);
        });
        sentence(14, "NONE: others, like ones.", () -> {
            BestWalks w = withDay("egf");
            for (int far : new int[] {-1, 7, FAR[0], FAR[1]}) {
                is("ends(" + far + ", 0)", w.ends(far, 0), -1);
                is("ends(0, " + far + ")", w.ends(0, far), -1);
                is("ends(" + far + ", " + far + ")", w.ends(far, far), -1);
            }
            for (int node = 0; node < 7; node++) {
                is("ends of like ones", w.ends(node, node), -1);
            }
            is("count(4)", w.count(4), 65);
            is("count(6)", w.count(6), 1);
        });
    }

    // ---- promise 15

    private static void dayActs() {
        sentence(15, "THE TEXT tells A DAY (an empty one: no ACTS)", () -> {
            BestWalks w = withLists("5");
            is("day()", day(w, ""), 0);
            rowIs("day()", w, 0);
            is("nothing was done", w.count(6), 1);
        });
        sentence(15, "p, a digit 0 .. 3 and two digits (puts())", () -> {
            BestWalks w = new BestWalks();
            is("p000p399p107", day(w, "p000p399p107"), 3);
            is("plain", plain(w), "[0][7][][99][]00 1");
        });
        sentence(15, "t, a digit 0 .. 3 and a digit (takes())", () -> {
            BestWalks w = full();
            is("t05t30t31", day(w, "t05t30t31"), 3);
            is("plain", plain(w), "[1, 2, 3, 4, 5][1, 2, 3, 4, 5, 6][1, 2, 3, 4, 5, 6][2, 4, 5, 6][]00 1");
            is("t09, which stands, but is not there", day(w, "t09"), 0);
            rowIs("t09", w, 1);
        });
        sentence(15, "j, two letters a .. g and two digits (joins())", () -> {
            BestWalks w = new BestWalks();
            is("jag01jgf99jcb10", day(w, "jag01jgf99jcb10"), 3);
            edgesAre(w, 0, 6, 1, 1, 2, 10, 5, 6, 99);
            is("jga00, it goes", day(w, "jga00"), 1);
            edgesAre(w, 1, 2, 10, 5, 6, 99);
            is("jga00, it is not there", day(w, "jga00"), 0);
            is("jaa01, like ones", day(w, "jaa01"), 0);
            is("a thirteenth", day(twelveEdges(), "jab01"), 0);
        });
        sentence(15, "c, a digit 0 .. 4, a digit 0 .. 4 and two digits (costs())", () -> {
            BestWalks w = new BestWalks();
            is("c0499c4098c4400", day(w, "c0499c4098c4400"), 3);
            is("the TABLE", table(w), "table 0 0 0 0 99" + times(" 0", 15) + " 98 0 0 0 0");
        });
        sentence(15, "z and a digit (sets() of SIZE)", () -> {
            BestWalks w = new BestWalks();
            is("z5", day(w, "z5"), 1);
            is("count(2)", w.count(2), 5);
            for (String text : new String[] {"z5", "z6", "z9"}) {
                is(text, day(w, text), 0);
                rowIs(text, w, 1);
            }
            is("z0", day(w, "z0"), 1);
            is("count(2)", w.count(2), 0);
        });
        sentence(15, "k and a digit (sets() of PICKED)", () -> {
            BestWalks w = new BestWalks();
            is("k3", day(w, "k3"), 1);
            is("count(3)", w.count(3), 3);
            for (String text : new String[] {"k3", "k4", "k9"}) {
                is(text, day(w, text), 0);
                rowIs(text, w, 1);
            }
            is("k0", day(w, "k0"), 1);
            is("count(3)", w.count(3), 0);
        });
        sentence(15, "e and two letters a .. g (ends())", () -> {
            BestWalks w = new BestWalks();
            is("ega", day(w, "ega"), 1);
            is("count(4)", w.count(4), 60);
            is("eag", day(w, "eag"), 1);
            is("count(4)", w.count(4), 6);
            is("edd", day(w, "edd"), 0);
            is("count(4)", w.count(4), 6);
        });
    }

    private static void dayStops() {
        sentence(15, "they are done one by one, till one can't be (it answers below 0): how many were done", () -> {
            BestWalks w = new BestWalks();
            is("the second can't be", day(w, "p005z0p007"), 1);
            rowIs("the second can't be", w, 1);
            numbersAre(w, 0, 5);
            is("the last can't be", day(w, "p006p007t09"), 2);
            rowIs("the last can't be", w, 1);
            numbersAre(w, 0, 5, 6, 7);
            is("the first can't be", day(w, "ebbp008"), 0);
            rowIs("the first can't be", w, 1);
            numbersAre(w, 0, 5, 6, 7);
            is("a seventh can't be", day(w, "p001p001p001p001p002"), 3);
            rowIs("a seventh can't be", w, 1);
            numbersAre(w, 0, 1, 1, 1, 5, 6, 7);
            is("what an ACT answers may be 0", day(w, "p100t10c0000"), 3);
        });
        sentence(15, "the ROW: 1 if one could not be, else 0", () -> {
            BestWalks w = new BestWalks();
            w.many(0);
            day(w, "p005");
            rowIs("all were done", w, 0);
            w.many(0);
            day(w, "t01");
            rowIs("none was done", w, 1);
            w.many(0);
            day(w, "");
            rowIs("no ACTS", w, 0);
        });
    }

    private static void dayFaults() {
        sentence(15, "-1 - p: the sign at p can't stand there", () -> {
            String[] acts = {"p399", "t39", "jga99", "c4499", "z9", "k9", "ega"};
            for (int c = 0; c < 256; c++) {
                String sign = "" + (char) c;
                is("first sign " + c, day(new BestWalks(), sign), "ptjczke".contains(sign) ? -2 : -1);
                is("sign " + c + " behind an ACT", day(new BestWalks(), "p005" + sign), "ptjczke".contains(sign) ? -6 : -5);
                for (String act : acts) {
                    for (int p = 1; p < act.length(); p++) {
                        dayWith(act, p, (char) c);
                    }
                }
            }
        });
        sentence(15, "(its end, if it ends too early", () -> {
            String[] acts = {"p399", "t39", "jga99", "c4499", "z9", "k9", "ega"};
            for (String act : acts) {
                for (int n = 1; n < act.length(); n++) {
                    is(act.substring(0, n), day(new BestWalks(), act.substring(0, n)), -1 - n);
                    is("p005" + act.substring(0, n), day(new BestWalks(), "p005" + act.substring(0, n)), -5 - n);
                }
            }
            is("59 signs", day(new BestWalks(), times("z1z2", 14) + "z1p"), -60);
            is("60 signs", day(new BestWalks(), times("z1z2", 14) + "z1p0"), -61);
        });
        sentence(15, "60, if it has more and the first 60 could go on or end)", () -> {
            is("60 signs", day(new BestWalks(), times("z1z2", 15)), 30);
            is("61: the first 60 could end", day(new BestWalks(), times("z1z2", 15) + "z"), -61);
            is("62: the first 60 could end", day(new BestWalks(), times("z1z2", 15) + "z1"), -61);
            is("63: the first 60 could go on", day(new BestWalks(), times("z1z2", 14) + "z1p005z"), -61);
            is("62: the first 60 could go on", day(new BestWalks(), times("z1z2", 14) + "z1" + "p005"), -61);
            is("63: the sign at 59 can't stand there", day(new BestWalks(), times("z1z2", 14) + "p00" + "p005"), -60);
            is("80 signs", day(new BestWalks(), times("z1z2", 20)), -61);
            is("the sign at 60 can't stand there", day(new BestWalks(), times("z1z2", 15) + "x"), -61);
            is("the sign at 59 can't stand there", day(new BestWalks(), times("z1z2", 14) + "z1zx" + "z1"), -60);
            is("the sign at 0 can't stand there", day(new BestWalks(), "x" + times("z1z2", 19)), -1);
        });
        sentence(15, "nothing is done then", () -> {
            String[] texts = {"p005x", "p005p", "z3p00", "jab01jah", times("z1z2", 15) + "z1"};
            for (String text : texts) {
                BestWalks w = withLists("7");
                w.best(3, 2);
                is("day " + text, day(w, text) < -1, true);
                rowIs("day " + text, w, 7, 0);
                is("plain", plain(w), "[7][][][][]00 1");
                is("count(6)", w.count(6), 1);
                is("count(8)", w.count(8), 0);
            }
        });
    }

    /** An act with one sign put in the place of another. */
    private static void dayWith(String act, int p, char sign) {
        char least = act.charAt(p) >= 'a' ? 'a' : '0';
        // of the forms in the test the sign told is the greatest that may stand, but for letters
        char greatest = least == 'a' ? 'g' : act.charAt(p);
        String text = act.substring(0, p) + sign;
        boolean stands = sign >= least && sign <= greatest;
        int end = stands ? p + 1 : p;
        boolean whole = stands && p == act.length() - 1;
        int got = day(new BestWalks(), text);
        is(text + " (sign " + (int) sign + ")", whole ? Math.min(got, -1) : got, whole ? -1 : -1 - end);
        if (whole) {
            is(text + " can stand", got >= 0, true);
        }
    }

    // ---- promise 16

    private static void undo() {
        sentence(16, "how many are left that can be", () -> {
            BestWalks w = new BestWalks();
            w.puts(0, 1);
            w.puts(0, 2);
            w.puts(0, 3);
            is("undo()", w.undo(), 2);
            numbersAre(w, 0, 1, 2);
            is("undo()", w.undo(), 1);
            is("undo()", w.undo(), 0);
            numbersAre(w, 0);
        });
        sentence(16, "Refused: none.", () -> {
            BestWalks w = new BestWalks();
            is("undo() of a new object", w.undo(), -1);
            w.puts(0, 1);
            w.undo();
            is("undo() when all are undone", w.undo(), -1);
            is("count(6)", w.count(6), 0);
            is("plain", plain(w), "[][][][][]00 1");
        });
        sentence(16, "(of 10 that are kept, the latest ones", () -> {
            for (int n = 9; n <= 25; n++) {
                BestWalks w = new BestWalks();
                for (int i = 1; i <= n; i++) {
                    w.costs(0, 0, i);
                    is("count(6) behind " + i, w.count(6), Math.min(i, 10));
                }
                int left = Math.min(n, 10);
                for (int i = n - 1; left > 0; i--) {
                    left--;
                    is("undo()", w.undo(), left);
                }
                is("undo() of none", w.undo(), -1);
                is("costs() as ahead of the tenth", w.costs(0, 0, 0), Math.max(0, n - 10));
            }
        });
        sentence(16, "(kept again behind undo(): ten at most)", () -> {
            BestWalks w = new BestWalks();
            for (int i = 1; i <= 12; i++) {
                w.costs(0, 0, i);
            }
            for (int i = 0; i < 5; i++) {
                w.undo();
            }
            is("count(6)", w.count(6), 5);
            for (int i = 50; i < 57; i++) {
                w.costs(0, 0, i);
            }
            is("count(6)", w.count(6), 10);
            int[] due = {55, 54, 53, 52, 51, 50, 7, 6, 5, 4};
            for (int i = 0; i < 10; i++) {
                is("undo()", w.undo(), 9 - i);
                int was = w.costs(0, 0, 98);
                is("costs()", was, due[i]);
                w.undo();
            }
        });
        sentence(16, "(again() forgets them, if it is not refused.)", () -> {
            BestWalks w = withDay("p005");
            w.keep(0);
            w.puts(0, 6);
            is("again(1)", w.again(1), false);
            is("count(6) behind a refused one", w.count(6), 2);
            is("again(0)", w.again(0), true);
            is("count(6)", w.count(6), 0);
            is("undo()", w.undo(), -1);
            numbersAre(w, 0, 5);
            w.puts(0, 7);
            is("undo()", w.undo(), 0);
            numbersAre(w, 0, 5);
        });
    }

    private interface Change {
        int on(BestWalks w);
    }

    private static void undoes(String what, Change change) {
        BestWalks w = world();
        int before = w.count(6);
        is(what + " was done", change.on(w) >= 0, true);
        is("count(6) behind " + what, w.count(6), before + 1);
        is("undo() of " + what, w.undo(), before);
        BestWalks same = world();
        is("behind undo() of " + what, plain(w), plain(same));
        is("behind undo() of " + what, table(w), table(same));
    }

    private static void undoOfEach() {
        sentence(16, "The latest lists(), puts(), takes(), joins(), costs(), sets(), ends(), day()", () -> {
            undoes("lists()", w -> list(w, 0, "1,2"));
            undoes("lists() of none", w -> list(w, 0, ""));
            undoes("lists() of what is there", w -> list(w, 0, "5,7,12"));
            undoes("puts()", w -> w.puts(0, 0));
            undoes("puts() to none", w -> w.puts(2, 0));
            undoes("takes() of the first", w -> w.takes(0, 0));
            undoes("takes() of a 0", w -> w.takes(3, 0));
            undoes("joins() of a new one", w -> w.joins(5, 6, 1));
            undoes("joins() of another WEIGHT", w -> w.joins(0, 1, 99));
            undoes("joins() of what is there", w -> w.joins(0, 1, 4));
            undoes("joins() of 0", w -> w.joins(0, 1, 0));
            undoes("costs()", w -> w.costs(4, 4, 0));
            undoes("costs() of what is there", w -> w.costs(4, 4, 44));
            undoes("sets() of SIZE", w -> w.sets(0, 5));
            undoes("sets() of PICKED", w -> w.sets(1, 3));
            undoes("ends()", w -> w.ends(6, 5));
            undoes("ends() as they are", w -> w.ends(3, 0));
            undoes("day() of one ACT", w -> day(w, "p000"));
        });
        sentence(16, "day() of which one ACT was done, as one", () -> {
            undoes("day() of all", w -> day(w, "p000t01jfg01jab00c0099z5k3egf"));
            undoes("day() whose second can't be", w -> day(w, "p000z9"));
            BestWalks w = world();
            int before = w.count(6);
            is("day() whose first can't be", day(w, "z9p000"), 0);
            is("count(6)", w.count(6), before);
            is("day() of no ACTS", day(w, ""), 0);
            is("count(6)", w.count(6), before);
        });
        sentence(16, "(LISTS, EDGES, TABLE, SIZE, ENDS, PICKED are as ahead of it)", () -> {
            BestWalks w = withLists("5", "6");
            rule(w, "-s");
            w.heard(0, 1);
            w.best(0, 1);
            tell(w, "123");
            w.keep(1);
            w.undo();
            is("what was heard stays", w.count(5), 1);
            is("THE TEXT stays", w.count(8), 3);
            rowIs("undo() (it stays)", w, -11, 0, 0);
            w.best(0, 1);
            rowIs("best(0, 1) by THE RULE, which stays", w, -5, 0);
            w.again(1);
            is("what was kept stays", w.count(0), 2);
        });
    }

    private static void undoOfRefused() {
        sentence(16, "such as were done", () -> {
            BestWalks w = withLists("1,2,3,4,5,6");
            w.joins(0, 1, 1);
            int before = w.count(6);
            list(w, 0, "x");
            list(w, 4, "1");
            w.puts(0, 1);
            w.puts(4, 1);
            w.takes(1, 0);
            w.joins(0, 2, 0);
            w.joins(0, 0, 1);
            w.costs(5, 0, 0);
            w.sets(0, 0);
            w.sets(0, 6);
            w.ends(0, 0);
            day(w, "x");
            day(w, "");
            day(w, "z0");
            is("refused ones are not kept", w.count(6), before);
            rule(w, "m");
            w.sheet(2, 1, 5, 0);
            w.sheet(3, 1, 5, 0);
            w.heard(0, 0);
            w.forget();
            w.keep(0);
            w.opens(0, 0);
            w.goes(0);
            law(w, "l");
            rank(w, 3, "a");
            is("others are not kept", w.count(6), before);
            w.years(5, 0);
            is("years() that is refused is not kept", w.count(6), before);
            BestWalks full = twelveEdges();
            is("count(6)", full.count(6), 10);
            full.joins(0, 1, 1);
            is("count(6)", full.undo(), 9);
            is("a thirteenth was not kept", full.count(1), 11);
        });
    }
}

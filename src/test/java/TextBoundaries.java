/** The boundaries that promises 2 to 8 name: sign, end, lists, rule, number, edge, sheet. */
public final class TextBoundaries extends Sentences {
    public static void main(String[] args) {
        signs();
        ends();
        lists();
        listFaults();
        rules();
        rulesBehindFaults();
        ruleFaults();
        rulesOverForty();
        numbers();
        edges();
        sheetEntries();
        sheetLengths();
        sheetUndone();
        finish("TextBoundaries");
    }

    /** An object whose text has so many signs, all of them 1. */
    private static BestWalks ofSigns(int n) {
        return tell(new BestWalks(), times("1", n));
    }

    // ---- promise 2

    private static void signs() {
        sentence(2, "Four signs come behind THE TEXT, of v the highest byte first: how many it has", () -> {
            BestWalks w = new BestWalks();
            is("sign", w.sign('4' << 24 | '5' << 16 | ',' << 8 | '6'), 4);
            is("sign", w.sign('7' << 24 | ',' << 16 | '8' << 8 | '9'), 8);
            is("lists(0)", w.lists(0), 3);
            numbersAre(w, 0, 45, 67, 89);
            is("sign behind what was read", w.sign(0), 4);
            w.end(1);
            is("sign behind one", w.sign(0), 5);
        });
        sentence(2, "of v the highest byte first (bytes above 127, below 0, 0)", () -> {
            int[] values = {0xff313131, 0x80000000, 0x00313131, -1, 0, Integer.MAX_VALUE};
            for (int v : values) {
                BestWalks w = new BestWalks();
                is("sign", w.sign(v), 4);
                is("lists(0) of a sign that is no digit", w.lists(0), -1);
            }
            BestWalks w = new BestWalks();
            w.sign(0x31ff3131);
            is("lists(0)", w.lists(0), -2);
            w.sign(0x31320000);
            is("lists(0) of 1, 2 and two signs 0", w.lists(0), -3);
            w.sign(0x31b23133);
            is("a high byte is not cut to 7 bits", w.lists(0), -2);
        });
        sentence(2, "Refused: there would be more than 80.", () -> {
            is("sign behind 76", ofSigns(76).sign(0x31313131), 80);
            for (int n = 77; n <= 80; n++) {
                BestWalks w = ofSigns(n);
                is("sign behind " + n, w.sign(0x32323232), -1);
                is("count(8)", w.count(8), n);
                is("end(" + n + ")", w.end(n), true);
                is("end(" + (n + 1) + ")", w.end(n + 1), false);
                w.end(2);
                w.lists(0);
                numbersAre(w, 0, 11);
            }
        });
    }

    // ---- promise 3

    private static void ends() {
        sentence(3, "THE TEXT has its first n signs alone: true", () -> {
            BestWalks w = tell(new BestWalks(), "12,34,56");
            is("end(8), as many as it has", w.end(8), true);
            is("count(8)", w.count(8), 8);
            is("end(5)", w.end(5), true);
            is("count(8)", w.count(8), 5);
            w.lists(0);
            numbersAre(w, 0, 12, 34);
            is("end(0) of an empty one", w.end(0), true);
            tell(w, "5");
            is("end(0)", w.end(0), true);
            is("lists(0) of none", w.lists(0), 0);
            BestWalks cut = new BestWalks();
            for (int n = 1; n <= 8; n++) {
                // what was cut off is not read, though it could go on
                tell(cut, "12345678").end(n);
                is("lists(1) of " + n + " digits", cut.lists(1), n < 3 ? 1 : -3);
                tell(cut, "12,34,56").end(n);
                is("lists(1) of " + n + " signs", cut.lists(1), new int[] {1, 1, -4, 2, 2, -7, 3, 3}[n - 1]);
            }
            tell(cut, "12,34,56").end(4);
            cut.lists(1);
            numbersAre(cut, 1, 3, 12);
            tell(cut, "12,34,56").end(1);
            cut.lists(1);
            numbersAre(cut, 1, 1);
            tell(cut, "p055p166").end(4);
            is("day() of its first ACT", cut.day(), 1);
            tell(cut, "p055p166").end(3);
            is("day() that ends too early", cut.day(), -4);
            tell(cut, "2*34").end(3);
            is("rule() of 2*3", cut.rule(), 0);
            cut.best(0, 1);
            is("the COST by 2*3", cut.row(0), 6);
            tell(cut, "aabb").end(2);
            is("rank(0) of aa", cut.rank(0), 1);
            BestWalks full = ofSigns(80);
            is("end(80)", full.end(80), true);
            is("end(79)", full.end(79), true);
            is("count(8)", full.count(8), 79);
        });
        sentence(3, "false if it has not so many", () -> {
            BestWalks w = ofSigns(5);
            is("end(6)", w.end(6), false);
            is("end(80)", w.end(80), false);
            is("end(81)", w.end(81), false);
            is("end(greatest)", w.end(Integer.MAX_VALUE), false);
            is("count(8)", w.count(8), 5);
            w.end(3);
            is("end(5), they were cut off", w.end(5), false);
            is("end(81) of 80", ofSigns(80).end(81), false);
            is("end(1) of none", new BestWalks().end(1), false);
        });
        sentence(3, "or n is below 0", () -> {
            BestWalks w = ofSigns(5);
            is("end(-1)", w.end(-1), false);
            is("end(least)", w.end(Integer.MIN_VALUE), false);
            is("count(8)", w.count(8), 5);
            is("end(-1) of none", new BestWalks().end(-1), false);
        });
    }

    // ---- promise 4

    private static void lists() {
        sentence(4, "THE TEXT is LIST x (an empty one: none)", () -> {
            for (int x = 0; x < 4; x++) {
                BestWalks w = withLists("1", "2", "3", "4");
                is("lists(" + x + ") of an empty text", list(w, x, ""), 0);
                is("count(0)", w.count(0), 3);
                numberThrows(w, x, 0);
                is("lists(" + x + ")", list(w, x, "8,9"), 2);
                numbersAre(w, x, 8, 9);
                is("count(0)", w.count(0), 5);
                is("an empty one was done", list(w, x, ""), 0);
                is("undo()", w.undo(), 6);
                numbersAre(w, x, 8, 9);
            }
        });
        sentence(4, "NUMBERS of 1 or 2 digits (as many as stand there)", () -> {
            BestWalks w = new BestWalks();
            is("lists(0)", list(w, 0, "0,00,9,09,10,99"), 6);
            numbersAre(w, 0, 0, 0, 9, 9, 10, 99);
            is("three digits", list(w, 0, "123"), -3);
            is("three digits", list(w, 0, "1,007"), -5);
            numbersAre(w, 0, 0, 0, 9, 9, 10, 99);
        });
        sentence(4, "with , between", () -> {
            BestWalks w = new BestWalks();
            is("5,6", list(w, 0, "5,6"), 2);
            is("5;6", list(w, 0, "5;6"), -2);
            is("5 6", list(w, 0, "5 6"), -2);
            is("5,,6", list(w, 0, "5,,6"), -3);
            is(",5", list(w, 0, ",5"), -1);
            numbersAre(w, 0, 5, 6);
        });
        sentence(4, "how many", () -> {
            String text = "7";
            for (int n = 1; n <= 6; n++) {
                is("lists(0) of " + n, list(new BestWalks(), 0, text), n);
                text = text + ",7";
            }
        });
    }

    private static void listFaults() {
        sentence(4, "-1 - p: the sign at p can't stand there", () -> {
            for (int c = 0; c < 256; c++) {
                char sign = (char) c;
                boolean digit = c >= '0' && c <= '9';
                int first = list(new BestWalks(), 0, sign + "");
                is("first sign " + c, first, digit ? 1 : -1);
                int behindOne = list(new BestWalks(), 0, "1" + sign + "3");
                is("sign " + c + " behind a digit", behindOne, digit ? -3 : c == ',' ? 2 : -2);
                int behindTwo = list(new BestWalks(), 0, "12" + sign + "3");
                is("sign " + c + " behind two digits", behindTwo, c == ',' ? 2 : -3);
                int behindComma = list(new BestWalks(), 0, "1," + sign);
                is("sign " + c + " behind ,", behindComma, digit ? 2 : -3);
            }
        });
        sentence(4, "(its end, if it ends too early", () -> {
            is("1,", list(new BestWalks(), 0, "1,"), -3);
            is("12,", list(new BestWalks(), 0, "12,"), -4);
            is("1,2,3,4,5,", list(new BestWalks(), 0, "1,2,3,4,5,"), -11);
            is("1,2,3,4,5,6,", list(new BestWalks(), 0, "1,2,3,4,5,6,"), -13);
        });
        sentence(4, "the first digit of a seventh NUMBER)", () -> {
            is("seven", list(new BestWalks(), 0, "1,2,3,4,5,6,7"), -13);
            is("seven of two digits", list(new BestWalks(), 0, "11,22,33,44,55,66,77"), -19);
            is("twenty-seven", list(new BestWalks(), 0, times("11,", 26) + "11"), -19);
            is("another sign there", list(new BestWalks(), 0, "1,2,3,4,5,6,x"), -13);
            is("a third digit of the sixth", list(new BestWalks(), 0, "1,2,3,4,5,666,7"), -13);
            is("80 signs", list(new BestWalks(), 0, times("1", 80)), -3);
        });
        sentence(4, "NONE: another x (asked behind THE TEXT; so is -1 - 0).", () -> {
            for (int x : new int[] {-1, 4, 5, Integer.MIN_VALUE, Integer.MAX_VALUE}) {
                BestWalks w = withLists("1", "2", "3", "4");
                is("lists(" + x + ")", list(w, x, "5,6"), -1);
                is("lists(" + x + ") of an empty one", list(w, x, ""), -1);
                is("lists(" + x + ") of a fault", list(w, x, "5,"), -3);
                is("lists(" + x + ") of seven", list(w, x, "1,2,3,4,5,6,7"), -13);
                is("plain", plain(w), "[1][2][3][4][]00 1");
                is("count(6)", w.count(6), 4);
            }
        });
        sentence(4, "(THE TEXT) which a call that can read it empties, whatever it answers", () -> {
            BestWalks w = new BestWalks();
            list(w, 0, "5,6");
            is("count(8) behind 2", w.count(8), 0);
            list(w, 0, "5,");
            is("count(8) behind a fault", w.count(8), 0);
            list(w, 4, "5");
            is("count(8) behind NONE", w.count(8), 0);
        });
    }

    // ---- promise 5

    private static void rules() {
        sentence(5, "THE TEXT is THE RULE (an empty one: none): 0", () -> {
            BestWalks w = withLists("5", "7");
            is("rule m", rule(w, "m"), 0);
            w.best(0, 1);
            rowIs("best(0, 1) by m", w, 7, 0, 0);
            is("rule of an empty text", rule(w, ""), 0);
            w.best(0, 1);
            rowIs("best(0, 1) by none", w, 12, 0, 0);
        });
        sentence(5, "(a refused one leaves THE RULE)", () -> {
            String[] faults = {"s+", "x", "l<f<e", "(l", "l)", "1234", times("-", 40) + "l"};
            for (String fault : faults) {
                BestWalks w = withLists("5", "7");
                rule(w, "m");
                is("rule " + fault, rule(w, fault) < 0, true);
                is("count(8)", w.count(8), 0);
                w.best(0, 1);
                rowIs("best(0, 1) behind " + fault, w, 7, 0, 0);
            }
        });
    }

    private static final String[] UNDONE = {"s-", "-", "--(", "1-(2-", "((((", "s<", "(s<m", "s*(", "((((1<2", "1<2<3", "s-(m"};

    private static void rulesBehindFaults() {
        sentence(5, "(a refused one leaves nothing to the next)", () -> {
            for (String fault : UNDONE) {
                BestWalks w = withLists("5,6", "7");
                is("rule " + fault, rule(w, fault) < 0, true);
                is("rule m+1<9 behind " + fault, rule(w, "m+1<9"), 0);
                w.best(0, 1);
                rowIs("best(0, 1) behind " + fault, w, 1, 0, 0);
                is("law " + fault, law(w, fault) <= -10000, true);
                is("law -((((f)))) behind " + fault, law(w, "-((((f))))"), 2);
                rowIs("law -((((f)))) behind " + fault, w, -6, 1);
                is("rule " + fault, rule(w, fault) < 0, true);
                w.best(0, 2);
                rowIs("best(0, 2) behind " + fault, w, 1, 1, 0);
            }
        });
    }

    private static final String THINGS = "smlfepn";
    private static final String BETWEEN = "+-*/<>=";

    private static void ruleFaults() {
        sentence(5, "-1 - p: the sign at p can't stand there", () -> {
            for (int c = 0; c < 256; c++) {
                String sign = "" + (char) c;
                boolean digit = c >= '0' && c <= '9';
                boolean thing = digit || THINGS.contains(sign);
                boolean opens = thing || c == '-' || c == '(';
                boolean between = BETWEEN.contains(sign);
                // behind what can stand there the text ends too early, or there
                is("first sign " + c, rule(new BestWalks(), sign), thing ? 0 : opens ? -2 : -1);
                is("sign " + c + " behind -", rule(new BestWalks(), "-" + sign), thing ? 0 : opens ? -3 : -2);
                is("sign " + c + " behind (", rule(new BestWalks(), "(" + sign), opens ? -3 : -2);
                is("sign " + c + " behind s", rule(new BestWalks(), "s" + sign), between ? -3 : -2);
                is("sign " + c + " behind (s)", rule(new BestWalks(), "(s)" + sign), between ? -5 : -4);
                is("sign " + c + " behind (s", rule(new BestWalks(), "(s" + sign), c == ')' ? 0 : between ? -4 : -3);
                is("sign " + c + " behind s<m", rule(new BestWalks(), "s<m" + sign),
                        between && "+-*/".contains(sign) ? -5 : -4);
                is("sign " + c + " behind 1", rule(new BestWalks(), "1" + sign), digit ? 0 : between ? -3 : -2);
                is("sign " + c + " behind 12", rule(new BestWalks(), "12" + sign), digit ? 0 : between ? -4 : -3);
                is("sign " + c + " behind 123", rule(new BestWalks(), "123" + sign), between ? -5 : -4);
                for (char b : BETWEEN.toCharArray()) {
                    is("sign " + c + " behind s" + b, rule(new BestWalks(), "s" + b + sign),
                            thing ? 0 : opens ? -4 : -3);
                }
            }
        });
        sentence(5, "(its end, if it ends too early", () -> {
            is("-", rule(new BestWalks(), "-"), -2);
            is("(", rule(new BestWalks(), "("), -2);
            is("s+", rule(new BestWalks(), "s+"), -3);
            is("s<", rule(new BestWalks(), "s<"), -3);
            is("(s", rule(new BestWalks(), "(s"), -3);
            is("((s)", rule(new BestWalks(), "((s)"), -5);
            is("((s)+1", rule(new BestWalks(), "((s)+1"), -7);
            is("39 signs", rule(new BestWalks(), times("s+", 19) + "-"), -40);
            is("40 signs", rule(new BestWalks(), times("s+", 20)), -41);
            is("40 signs, a ( is open", rule(new BestWalks(), "(" + times("-", 38) + "s"), -41);
        });
        sentence(5, "(brackets: none to close, nothing in them, five)", () -> {
            is(")", rule(new BestWalks(), ")"), -1);
            is("s)", rule(new BestWalks(), "s)"), -2);
            is("(s))", rule(new BestWalks(), "(s))"), -4);
            is("()", rule(new BestWalks(), "()"), -2);
            is("((((", rule(new BestWalks(), "(((("), -5);
            is("(((((", rule(new BestWalks(), "((((("), -5);
            is("-(-(-(-(-(", rule(new BestWalks(), "-(-(-(-(-("), -10);
            is("((((s))))", rule(new BestWalks(), "((((s))))"), 0);
            is("((((s)))))", rule(new BestWalks(), "((((s)))))"), -10);
        });
    }

    private static void rulesOverForty() {
        sentence(5, "40, if it has more and the first 40 could go on or end)", () -> {
            is("the first 40 could end", rule(new BestWalks(), times("-", 39) + "s+s"), -41);
            is("the first 40 could go on", rule(new BestWalks(), times("s+", 20) + "s"), -41);
            is("a ( is open", rule(new BestWalks(), "(" + times("-", 38) + "s)"), -41);
            is("a NUMBER goes on", rule(new BestWalks(), times("-", 38) + "123"), -41);
            is("a NUMBER of three goes on", rule(new BestWalks(), times("-", 37) + "1234"), -41);
            is("the sign at 40 can't stand there", rule(new BestWalks(), times("-", 39) + "sx"), -41);
            is("the sign at 41 can't stand there", rule(new BestWalks(), times("-", 39) + "s+x"), -41);
            is("80 signs", rule(new BestWalks(), times("s+", 39) + "ss"), -41);
            is("41 signs 0 behind s", rule(new BestWalks(), times("-", 39) + "s" + (char) 0), -41);
        });
        sentence(5, "(the sign at p can't stand there, of a text of more than 40)", () -> {
            is("at 0", rule(new BestWalks(), "x" + times("-", 50)), -1);
            is("at 20", rule(new BestWalks(), times("-", 19) + "s" + "m" + times("-", 40)), -21);
            is("at 39", rule(new BestWalks(), times("-", 38) + "ss" + "s"), -40);
            is("at 38 of 41", rule(new BestWalks(), times("-", 37) + "s)" + "+s"), -39);
            is("a fourth digit at 39", rule(new BestWalks(), times("-", 36) + "12345"), -40);
        });
    }

    // ---- promises 6 and 7

    private static void numbers() {
        sentence(6, "NUMBER at a place of LIST x.", () -> {
            BestWalks w = full();
            for (int x = 0; x < 4; x++) {
                for (int place = 0; place < 6; place++) {
                    is("number(" + x + ", " + place + ")", w.number(x, place), place + 1);
                }
            }
            is("number of 0", withLists("0").number(0, 0), 0);
            is("number of 99", withLists("", "", "", "99").number(3, 0), 99);
        });
        sentence(6, "NoSuchElementException: none such.", () -> {
            BestWalks w = full();
            for (int x = 0; x < 4; x++) {
                numberThrows(w, x, 6);
                numberThrows(w, x, -1);
                numberThrows(w, x, Integer.MAX_VALUE);
                numberThrows(w, x, Integer.MIN_VALUE);
                numberThrows(new BestWalks(), x, 0);
            }
            for (int x : new int[] {-1, 4, Integer.MIN_VALUE, Integer.MAX_VALUE}) {
                numberThrows(w, x, 0);
                numberThrows(w, x, -1);
            }
            BestWalks one = withLists("5,6");
            numberThrows(one, 0, 2);
            numberThrows(one, 1, 0);
            one.takes(0, 0);
            numberThrows(one, 0, 1);
            is("a question changes nothing", one.number(0, 0), 6);
        });
    }

    private static void edges() {
        sentence(7, "Of EDGE i, what 0: its lesser NODE, 1: the other one, 2: WEIGHT.", () -> {
            BestWalks w = new BestWalks();
            w.joins(6, 0, 99);
            is("edge(0, 0)", w.edge(0, 0), 0);
            is("edge(0, 1)", w.edge(0, 1), 6);
            is("edge(0, 2)", w.edge(0, 2), 99);
        });
        sentence(7, "NoSuchElementException: none such, another what.", () -> {
            BestWalks w = twelveEdges();
            for (int what = 0; what < 3; what++) {
                is("edge(11, " + what + ")", w.edge(11, what), new int[] {2, 6, 1}[what]);
                edgeThrows(w, 12, what);
                edgeThrows(w, -1, what);
                edgeThrows(w, Integer.MIN_VALUE, what);
                edgeThrows(w, Integer.MAX_VALUE, what);
                edgeThrows(new BestWalks(), 0, what);
            }
            for (int what : new int[] {-1, 3, Integer.MIN_VALUE, Integer.MAX_VALUE}) {
                edgeThrows(w, 0, what);
                edgeThrows(w, 11, what);
                edgeThrows(w, 12, what);
            }
            w.joins(0, 3, 0);
            edgeThrows(w, 11, 0);
            is("edge(10, 1)", w.edge(10, 1), 6);
        });
    }

    // ---- promise 8

    /** What a sheet of a kind tells of one entry, as the weight that the only EDGE has then. */
    private static void weighs(int kind, int entry, int due) {
        BestWalks w = withDay("jab50");
        is("sheet(" + kind + ", 1, " + entry + ", 0)", w.sheet(kind, 1, entry, 0), due);
        edgesAre(w, 0, 1, due);
    }

    private static void sheetEntries() {
        sentence(8, "put to 1 .. 99", () -> {
            for (int kind = 0; kind < 3; kind++) {
                weighs(kind, -1, 1);
                weighs(kind, 0, 1);
                weighs(kind, 1, 1);
                weighs(kind, 2, 2);
                weighs(kind, 98, 98);
                weighs(kind, 99, 99);
                weighs(kind, 100, 99);
            }
        });
        sentence(8, "bytes (kind 0) .. (the lowest bits, with their sign)", () -> {
            int[][] due = {{127, 99}, {128, 1}, {255, 1}, {256, 1}, {257, 1}, {258, 2}, {300, 44}, {354, 98}, {355, 99},
                {356, 99}, {-128, 1}, {-129, 99}, {-156, 99}, {-158, 98}, {-254, 2}, {-256, 1}, {Integer.MAX_VALUE, 1},
                {Integer.MIN_VALUE, 1}, {Integer.MIN_VALUE + 7, 7}, {65536 + 9, 9}, {0x7fffff80, 1}, {0x7fffff7f, 99}};
            for (int[] one : due) {
                weighs(0, one[0], one[1]);
            }
        });
        sentence(8, "shorts (1) .. (the lowest bits, with their sign)", () -> {
            int[][] due = {{127, 99}, {128, 99}, {256, 99}, {32767, 99}, {32768, 1}, {65535, 1}, {65536, 1}, {65537, 1},
                {65538, 2}, {65536 + 98, 98}, {65536 + 100, 99}, {-32768, 1}, {-32769, 99}, {-65534, 2},
                {Integer.MAX_VALUE, 1}, {Integer.MIN_VALUE, 1}, {Integer.MIN_VALUE + 7, 7}};
            for (int[] one : due) {
                weighs(1, one[0], one[1]);
            }
        });
        sentence(8, "ints (2)", () -> {
            int[][] due = {{128, 99}, {258, 99}, {65538, 99}, {-254, 1}, {-65534, 1}, {Integer.MAX_VALUE, 99},
                {Integer.MIN_VALUE, 1}, {Integer.MIN_VALUE + 7, 1}};
            for (int[] one : due) {
                weighs(2, one[0], one[1]);
            }
        });
        sentence(8, "entries f, f + step, ..", () -> {
            BestWalks w = withDay("jab50jac50jad50jae50");
            is("a step of 3", w.sheet(2, 4, 10, 3), 10 + 13 + 16 + 19);
            edgesAre(w, 0, 1, 10, 0, 2, 13, 0, 3, 16, 0, 4, 19);
            is("a step below 0", w.sheet(2, 4, 5, -2), 5 + 3 + 1 + 1);
            is("a step of 0", w.sheet(2, 4, 5, 0), 20);
            is("past the greatest int", w.sheet(2, 4, Integer.MAX_VALUE, 2), 99 + 1 + 1 + 1);
            is("past the least int", w.sheet(2, 4, Integer.MIN_VALUE, -1), 1 + 99 + 99 + 99);
            is("a great step", w.sheet(2, 4, 3, 1 << 30), 3 + 99 + 1 + 1);
            is("a great step of bytes", w.sheet(0, 4, 3, 1 << 30), 12);
            is("bytes go over", w.sheet(0, 4, 126, 1), 99 + 99 + 1 + 1);
            is("shorts go over", w.sheet(1, 4, 32766, 1), 99 + 99 + 1 + 1);
            is("bytes go round", w.sheet(0, 4, 250, 3), 1 + 1 + 1 + 3);
        });
    }

    private static void sheetLengths() {
        sentence(8, "those behind it have 1: the sum of all that there are", () -> {
            BestWalks w = withDay("jab50jac50jad50jae50");
            is("no entries", w.sheet(0, 0, 9, 9), 4);
            edgesAre(w, 0, 1, 1, 0, 2, 1, 0, 3, 1, 0, 4, 1);
            is("one fewer", w.sheet(1, 3, 9, 9), 9 + 18 + 27 + 1);
            edgesAre(w, 0, 1, 9, 0, 2, 18, 0, 3, 27, 0, 4, 1);
            is("as many", w.sheet(2, 4, 9, 9), 9 + 18 + 27 + 36);
        });
        sentence(8, "(entries beyond them are left aside)", () -> {
            BestWalks w = withDay("jab50jac50jad50jae50");
            is("one more", w.sheet(2, 5, 9, 9), 9 + 18 + 27 + 36);
            is("twelve", w.sheet(2, 12, 9, 9), 9 + 18 + 27 + 36);
            is("count(1)", w.count(1), 4);
            is("no EDGES", new BestWalks().sheet(2, 12, 9, 9), 0);
            is("twelve of twelve", twelveEdges().sheet(2, 12, 1, 1), 78);
            is("eleven of twelve", twelveEdges().sheet(2, 11, 1, 1), 67);
        });
        sentence(8, "-2: n below 0 (of kinds 0 .. 2; nothing changes)", () -> {
            for (int kind = 0; kind < 3; kind++) {
                for (int n : new int[] {-1, -12, Integer.MIN_VALUE}) {
                    BestWalks w = withDay("jab50jac40");
                    is("sheet(" + kind + ", " + n + ", 7, 7)", w.sheet(kind, n, 7, 7), -2);
                    edgesAre(w, 0, 1, 50, 0, 2, 40);
                }
            }
        });
        sentence(8, "-3: missing (all 1)", () -> {
            for (int n : new int[] {0, 1, 12, -1, Integer.MIN_VALUE}) {
                BestWalks w = withDay("jab50jac40");
                is("sheet(3, " + n + ", 7, 7)", w.sheet(3, n, 7, 7), -3);
                edgesAre(w, 0, 1, 1, 0, 2, 1);
                is("sheet(3, ..) of no EDGES", new BestWalks().sheet(3, n, 7, 7), -3);
            }
        });
        sentence(8, "NONE: another kind, n above 12 (these first).", () -> {
            for (int kind : new int[] {-1, 4, Integer.MIN_VALUE, Integer.MAX_VALUE}) {
                for (int n : new int[] {-1, 0, 2, 12, 13}) {
                    BestWalks w = withDay("jab50jac40");
                    is("sheet(" + kind + ", " + n + ", 7, 7)", w.sheet(kind, n, 7, 7), -1);
                    edgesAre(w, 0, 1, 50, 0, 2, 40);
                }
            }
            for (int kind = 0; kind < 4; kind++) {
                for (int n : new int[] {13, 14, Integer.MAX_VALUE}) {
                    BestWalks w = withDay("jab50jac40");
                    is("sheet(" + kind + ", " + n + ", 7, 7)", w.sheet(kind, n, 7, 7), -1);
                    edgesAre(w, 0, 1, 50, 0, 2, 40);
                }
                is("sheet(" + kind + ", 12, 7, 7)", withDay("jab50").sheet(kind, 12, 7, 7), kind == 3 ? -3 : 7);
            }
        });
    }

    private static void sheetUndone() {
        sentence(8, "Nothing is kept of it that could be undone", () -> {
            for (int kind = 0; kind < 4; kind++) {
                BestWalks w = withDay("jab50");
                w.sheet(kind, 1, 7, 0);
                is("count(6)", w.count(6), 1);
                is("undo()", w.undo(), 0);
                edgesAre(w);
                is("undo()", w.undo(), -1);
            }
            BestWalks none = new BestWalks();
            none.sheet(2, 1, 7, 0);
            is("undo() of a sheet alone", none.undo(), -1);
        });
        sentence(8, "(an undo() behind it brings WEIGHTS back, too, as they were ahead of what is undone)", () -> {
            BestWalks w = withDay("jab50");
            w.puts(0, 5);
            w.sheet(2, 1, 7, 0);
            w.costs(0, 0, 1);
            w.sheet(3, 0, 0, 0);
            edgesAre(w, 0, 1, 1);
            is("undo() of costs()", w.undo(), 2);
            edgesAre(w, 0, 1, 7);
            is("undo() of puts()", w.undo(), 1);
            edgesAre(w, 0, 1, 50);
        });
        sentence(8, "(the ORDER is that of the new WEIGHTS)", () -> {
            BestWalks w = withDay("jab50jac01jcb01");
            w.best(4, 1);
            rowIs("best(4, 1)", w, 2, 0, 2, 1);
            w.sheet(3, 0, 0, 0);
            w.best(4, 1);
            rowIs("best(4, 1)", w, 1, 0, 1);
            w.sheet(2, 1, 3, 0);
            w.best(1, 1);
            rowIs("best(1, 1)", w, 2, 1, 2);
        });
    }
}

import java.util.NoSuchElementException;
import java.util.function.Supplier;

/** Term 2: what refused calls, questions and calls that do not tell of the ROW leave as it is. */
public final class RefusalTests extends Sentences {
    private static final int LEAST = Integer.MIN_VALUE;
    private static final int GREATEST = Integer.MAX_VALUE;
    private static String untouched;
    private static String speechless;

    public static void main(String[] args) {
        untouched = all(RefusalTests::world);
        speechless = all(RefusalTests::wordless);
        sentence(0, "Refused calls answer NONE, or false, and change nothing", RefusalTests::refusedChanges);
        sentence(0, "Refused calls answer NONE .. and change nothing (in order)", RefusalTests::refusedQuestions);
        sentence(0, "Refused calls answer NONE .. and change nothing (cursors, clues, kept)", RefusalTests::refusedOthers);
        sentence(0, "but THE TEXT, which a call that can read it empties, whatever it answers", RefusalTests::refusedReaders);
        sentence(0, "(THE TEXT) which a call that can read it empties (when it is not refused)", RefusalTests::readersEmpty);
        sentence(0, "(THE TEXT stays with all others)", RefusalTests::othersLeaveTheText);
        sentence(0, "NONE comes ahead of other answers below 0, if not said otherwise", RefusalTests::noneFirst);
        sentence(0, "the ROW stays with .. calls that do not tell of it", RefusalTests::theRowStays);
        sentence(0, "the ROW stays with each answer that tells .. that there is none", RefusalTests::noneOfIt);
        sentence(0, "Questions change nothing.", RefusalTests::questions);
        sentence(0, "A call of the face throws exactly what and where the document says", RefusalTests::throwersChangeNothing);
        finish("RefusalTests");
    }

    private interface Call {
        long on(BestWalks w);
    }

    private static Supplier<BestWalks> after(Call call) {
        return () -> {
            BestWalks w = world();
            call.on(w);
            return w;
        };
    }

    private static long number(boolean answer) {
        return answer ? 1 : 0;
    }

    /** The call answers what is due, and all is as it was. */
    private static void refused(String name, long due, Call call) {
        is(name, call.on(world()), due);
        is("all behind " + name, all(after(call)), untouched);
    }

    /** The same of a call that reads THE TEXT: that alone is gone. */
    private static void refusedReader(String name, String text, long due, Call call) {
        Call telling = w -> {
            tell(w, text);
            return call.on(w);
        };
        is(name + " of " + text, telling.on(world()), due);
        is("all behind " + name + " of " + text, all(after(telling)), speechless);
    }

    private static void refusedChanges() {
        refused("sign() of a full text", -1, w -> {
            tell(w, "8,4" + times("x", 75));
            long answer = w.sign(0x31313131);
            w.end(3);
            return answer;
        });
        refused("end(4)", 0, w -> number(w.end(4)));
        refused("end(-1)", 0, w -> number(w.end(-1)));
        refused("sheet(4, 1, 9, 0)", -1, w -> w.sheet(4, 1, 9, 0));
        refused("sheet(-1, 1, 9, 0)", -1, w -> w.sheet(-1, 1, 9, 0));
        refused("sheet(2, 13, 9, 0)", -1, w -> w.sheet(2, 13, 9, 0));
        refused("sheet(3, 13, 9, 0)", -1, w -> w.sheet(3, 13, 9, 0));
        refused("sheet(0, -1, 9, 0)", -2, w -> w.sheet(0, -1, 9, 0));
        refused("puts(4, 5)", -1, w -> w.puts(4, 5));
        refused("puts(-1, 5)", -1, w -> w.puts(-1, 5));
        refused("puts(0, 100)", -1, w -> w.puts(0, 100));
        refused("puts(0, -1)", -1, w -> w.puts(0, -1));
        refused("takes(0, 3)", -1, w -> w.takes(0, 3));
        refused("takes(0, -1)", -1, w -> w.takes(0, -1));
        refused("takes(2, 0)", -1, w -> w.takes(2, 0));
        refused("takes(4, 0)", -1, w -> w.takes(4, 0));
        refused("joins(0, 0, 5)", -1, w -> w.joins(0, 0, 5));
        refused("joins(0, 7, 5)", -1, w -> w.joins(0, 7, 5));
        refused("joins(-1, 0, 5)", -1, w -> w.joins(-1, 0, 5));
        refused("joins(0, 1, 100)", -1, w -> w.joins(0, 1, 100));
        refused("joins(0, 1, -1)", -1, w -> w.joins(0, 1, -1));
        refused("joins(0, 6, 0)", -2, w -> w.joins(0, 6, 0));
        refused("costs(5, 0, 1)", -1, w -> w.costs(5, 0, 1));
        refused("costs(0, 5, 1)", -1, w -> w.costs(0, 5, 1));
        refused("costs(0, 0, 100)", -1, w -> w.costs(0, 0, 100));
        refused("costs(0, 0, -1)", -1, w -> w.costs(0, 0, -1));
        refused("sets(0, 6)", -1, w -> w.sets(0, 6));
        refused("sets(0, 3)", -2, w -> w.sets(0, 3));
        refused("sets(1, 4)", -1, w -> w.sets(1, 4));
        refused("sets(1, 0)", -2, w -> w.sets(1, 0));
        refused("sets(2, 0)", -1, w -> w.sets(2, 0));
        refused("ends(1, 1)", -1, w -> w.ends(1, 1));
        refused("ends(7, 1)", -1, w -> w.ends(7, 1));
        refused("ends(1, -1)", -1, w -> w.ends(1, -1));
        refused("years(0, 0)", -1, w -> w.years(0, 0));
        refused("years(0, 41)", -1, w -> w.years(0, 41));
    }

    private static void refusedQuestions() {
        refused("best(5, 1)", -1, w -> w.best(5, 1));
        refused("best(0, 0)", -1, w -> w.best(0, 0));
        refused("best(0, 401)", -1, w -> w.best(0, 401));
        refused("best(2, 7)", -2, w -> w.best(2, 7));
        refused("many(-1)", -1, w -> w.many(-1));
        refused("below(5, 9)", -1, w -> w.below(5, 9));
        refused("alike(5, 1)", -1, w -> w.alike(5, 1));
        refused("alike(0, 401)", -1, w -> w.alike(0, 401));
        refused("alike(2, 7)", -2, w -> w.alike(2, 7));
        refused("surely(5)", -1, w -> w.surely(5));
        refused("having(5, 0, 0, 1)", -1, w -> w.having(5, 0, 0, 1));
        refused("having(0, 8, 0, 1)", -1, w -> w.having(0, 8, 0, 1));
        refused("having(0, 0, 12, 1)", -1, w -> w.having(0, 0, 12, 1));
        refused("having(0, 0, 0, 2)", -1, w -> w.having(0, 0, 0, 2));
        refused("differ(5, 1, 1)", -1, w -> w.differ(5, 1, 1));
        refused("differ(0, 0, 1)", -1, w -> w.differ(0, 0, 1));
        refused("differ(0, 1, 401)", -1, w -> w.differ(0, 1, 401));
        refused("differ(2, 1, 7)", -2, w -> w.differ(2, 1, 7));
        refused("gap(5, 1)", -1, w -> w.gap(5, 1));
        refused("gap(0, 400)", -1, w -> w.gap(0, 400));
        refused("gap(2, 6)", -2, w -> w.gap(2, 6));
        refused("fits(5)", -1, w -> w.fits(5));
        refused("asks(5)", -1, w -> w.asks(5));
        refused("odds(5, 0, 1)", -1, w -> w.odds(5, 0, 1));
        refused("odds(0, 0, 0)", -1, w -> w.odds(0, 0, 0));
        refused("odds(0, 0, 4)", -1, w -> w.odds(0, 0, 4));
        refused("duel(4)", -1, w -> w.duel(4));
        refused("count(10)", -1, w -> w.count(10));
    }

    private static void refusedOthers() {
        refused("opens(3, 0)", -1, w -> w.opens(3, 0));
        refused("opens(-1, 0)", -1, w -> w.opens(-1, 0));
        refused("opens(0, 5)", -1, w -> w.opens(0, 5));
        refused("opens(2, 5)", -1, w -> w.opens(2, 5));
        refused("goes(3)", -1, w -> w.goes(3));
        refused("goes(1) at the end", -2, w -> w.goes(1));
        refused("goes(2), never opened", -3, w -> w.goes(2));
        refused("skips(3, 1)", -1, w -> w.skips(3, 1));
        refused("skips(0, 401)", -1, w -> w.skips(0, 401));
        refused("skips(0, -1)", -1, w -> w.skips(0, -1));
        refused("skips(2, 1), never opened", -3, w -> w.skips(2, 1));
        refused("heard(0, 31)", -1, w -> w.heard(0, 31));
        refused("heard(1, 12)", -1, w -> w.heard(1, 12));
        refused("heard(3, 9)", -1, w -> w.heard(3, 9));
        refused("heard(5, 0)", -1, w -> w.heard(5, 0));
        refused("heard(-1, 0)", -1, w -> w.heard(-1, 0));
        refused("keep(2)", 0, w -> number(w.keep(2)));
        refused("keep(-1)", 0, w -> number(w.keep(-1)));
        refused("again(1)", 0, w -> number(w.again(1)));
        refused("again(2)", 0, w -> number(w.again(2)));
        refused("again(-1)", 0, w -> number(w.again(-1)));
        BestWalks none = new BestWalks();
        is("undo() of none", none.undo(), -1);
        is("count(6)", none.count(6), 0);
    }

    private static void refusedReaders() {
        refusedReader("lists(0)", "x", -1, w -> w.lists(0));
        refusedReader("lists(0)", "1,2,3,4,5,6,7", -13, w -> w.lists(0));
        refusedReader("lists(0)", "1,", -3, w -> w.lists(0));
        refusedReader("lists(4)", "1,2", -1, w -> w.lists(4));
        refusedReader("lists(-1)", "", -1, w -> w.lists(-1));
        refusedReader("rule()", "x", -1, w -> w.rule());
        refusedReader("rule()", "s+", -3, w -> w.rule());
        refusedReader("rule()", times("-", 41), -41, w -> w.rule());
        refusedReader("day()", "x", -1, w -> w.day());
        refusedReader("day()", "p005p", -6, w -> w.day());
        refusedReader("day()", "z1" + times("z2z1", 15), -61, w -> w.day());
        refusedReader("rank(0)", "m", -1, w -> w.rank(0));
        refusedReader("rank(0)", "aaaaaaaaa", -9, w -> w.rank(0));
        refusedReader("rank(0)", "l", -100, w -> w.rank(0));
        refusedReader("rank(5)", "a", -101, w -> w.rank(5));
        refusedReader("law()", "x", -10000, w -> w.law());
        refusedReader("law()", times("-", 41), -10040, w -> w.law());
    }

    private static void readersEmpty() {
        Call[] readers = {w -> list(w, 0, "1"), w -> rule(w, "m"), w -> day(w, "p005"), w -> day(w, "z9"),
            w -> rank(w, 1, "abde"), w -> law(w, "m")};
        for (int i = 0; i < readers.length; i++) {
            BestWalks w = world();
            is("reader " + i + " is not refused", readers[i].on(w) >= 0, true);
            is("count(8) behind reader " + i, w.count(8), 0);
        }
    }

    private static void othersLeaveTheText() {
        BestWalks w = world();
        w.sheet(2, 1, 5, 0);
        w.puts(0, 5);
        w.takes(0, 0);
        w.joins(0, 1, 5);
        w.costs(0, 0, 5);
        w.sets(0, 2);
        w.ends(1, 2);
        w.undo();
        w.best(0, 1);
        w.many(0);
        w.below(0, 9);
        w.alike(0, 1);
        w.surely(0);
        w.having(0, 0, 0, 1);
        w.differ(0, 1, 2);
        w.gap(0, 1);
        w.opens(0, 0);
        w.goes(0);
        w.skips(0, 1);
        w.heard(0, 0);
        w.fits(0);
        w.asks(0);
        w.forget();
        w.odds(0, 9, 1);
        w.duel(0);
        w.years(1, 3);
        w.keep(1);
        w.again(1);
        w.count(8);
        w.row(0);
        w.number(1, 0);
        w.edge(0, 0);
        is("count(8)", w.count(8), 3);
        w.lists(2);
        numbersAre(w, 2, 4, 8);
    }

    private static void noneFirst() {
        BestWalks full = full();
        is("puts(0, 100) of a full LIST", full.puts(0, 100), -1);
        is("joins(0, 1, 100) of twelve", twelveEdges().joins(0, 1, 100), -1);
        is("joins(0, 0, 0)", twelveEdges().joins(0, 0, 0), -1);
        is("sheet(4, -1, 1, 1)", full.sheet(4, -1, 1, 1), -1);
        is("sheet(3, 13, 1, 1)", full.sheet(3, 13, 1, 1), -1);
        is("best(4, 401) of none", full.best(4, 401), -1);
        is("best(5, 400)", full.best(5, 400), -1);
        is("alike(4, 401) of none", full.alike(4, 401), -1);
        is("alike(5, 400)", full.alike(5, 400), -1);
        is("differ(4, 1, 401) of none", full.differ(4, 1, 401), -1);
        is("differ(4, 401, 1) of none", full.differ(4, 401, 1), -1);
        is("gap(4, 400) of none", full.gap(4, 400), -1);
        is("odds(4, 0, 4) of none", full.odds(4, 0, 4), -1);
        is("skips(0, 401), never opened", full.skips(0, 401), -1);
        full.opens(0, 0);
        rule(full, "m");
        is("skips(0, 401), STALE", full.skips(0, 401), -1);
        is("skips(0, -1), STALE", full.skips(0, -1), -1);
        is("asks(5)", full.asks(5), -1);
        is("said otherwise: lists()", list(full, 9, "1,"), -3);
        is("said otherwise: rank()", rank(full, 9, "a!"), -2);
    }

    private static void stays(String name, Call call) {
        BestWalks w = world();
        String row = rowOf(w);
        call.on(w);
        is("the ROW behind " + name, rowOf(w), row);
    }

    private static void theRowStays() {
        stays("sign(), end()", w -> w.sign(0) + number(w.end(0)));
        stays("lists()", w -> list(w, 0, "1"));
        stays("rule()", w -> rule(w, "m"));
        stays("number()", w -> w.number(0, 0));
        stays("edge()", w -> w.edge(0, 0));
        stays("sheet()", w -> w.sheet(2, 1, 5, 0));
        stays("-3 of sheet()", w -> w.sheet(3, 1, 5, 0));
        stays("puts()", w -> w.puts(0, 5));
        stays("takes()", w -> w.takes(0, 0));
        stays("joins()", w -> w.joins(0, 1, 0));
        stays("costs()", w -> w.costs(0, 0, 1));
        stays("sets()", w -> w.sets(0, 5));
        stays("ends()", w -> w.ends(1, 2));
        stays("undo()", w -> w.undo());
        stays("opens()", w -> w.opens(0, 1));
        stays("skips()", w -> w.skips(0, 1));
        stays("heard()", w -> w.heard(0, 1));
        stays("forget()", w -> w.forget());
        stays("keep()", w -> number(w.keep(1)));
        stays("again()", w -> number(w.again(0)));
        stays("count()", w -> w.count(0));
        stays("row()", w -> w.row(0));
    }

    private static void noneOfIt() {
        stays("best() of fewer", w -> w.best(3, 9));
        stays("alike() of fewer", w -> w.alike(3, 9));
        stays("differ() of fewer", w -> w.differ(3, 1, 9));
        stays("gap() of fewer", w -> w.gap(3, 8));
        stays("rank() of none such", w -> rank(w, 3, "l"));
        stays("goes() at the end", w -> w.goes(1));
        BestWalks none = new BestWalks();
        none.many(0);
        none.surely(4);
        none.odds(4, 0, 1);
        none.asks(4);
        none.best(4, 1);
        rowIs("surely(), odds(), asks() of none", none, 0, 1, 0);
    }

    /** A question, then the ROW and THE TEXT told again as they were. */
    private static void asked(String name, Call question) {
        is("all behind " + name, all(() -> {
            BestWalks w = world();
            question.on(w);
            w.best(1, 2);
            return tell(w, "8,4");
        }), untouched);
    }

    private static void questions() {
        for (int k = 0; k < 5; k++) {
            int kind = k;
            asked("best()", w -> w.best(kind, 1));
            asked("many()", w -> w.many(kind));
            asked("below()", w -> w.below(kind, 9));
            asked("alike()", w -> w.alike(kind, 1));
            asked("surely()", w -> w.surely(kind));
            asked("having()", w -> w.having(kind, 0, 0, 1));
            asked("differ()", w -> w.differ(kind, 1, 2));
            asked("gap()", w -> w.gap(kind, 1));
            asked("rank()", w -> rank(w, kind, "aa"));
            asked("fits()", w -> w.fits(kind));
            asked("asks()", w -> w.asks(kind));
            asked("odds()", w -> w.odds(kind, 9, 2));
            asked("duel()", w -> w.duel(kind));
        }
        asked("law()", w -> law(w, "-s"));
        asked("number()", w -> w.number(0, 0));
        asked("edge()", w -> w.edge(0, 0));
        asked("row()", w -> w.row(0));
        for (int what = 0; what < 10; what++) {
            int w0 = what;
            asked("count(" + what + ")", w -> w.count(w0));
        }
    }

    private static void throwersChangeNothing() {
        refused("number(0, 3)", -7, w -> {
            try {
                return w.number(0, 3);
            } catch (NoSuchElementException e) {
                return -7;
            }
        });
        refused("edge(5, 0)", -7, w -> {
            try {
                return w.edge(5, 0);
            } catch (NoSuchElementException e) {
                return -7;
            }
        });
        refused("row(7)", -7, w -> {
            try {
                return w.row(7);
            } catch (NoSuchElementException e) {
                return -7;
            }
        });
        int[] far = {LEAST, GREATEST, LEAST + 1, GREATEST - 1, -2, 1 << 16, -(1 << 16)};
        for (int a : far) {
            for (int b : far) {
                BestWalks w = world();
                wild(w, a, b);
            }
        }
    }

    /** No argument makes the machine throw: a fault here is told by sentence(). */
    private static void wild(BestWalks w, int a, int b) {
        w.sign(a);
        w.end(a);
        w.lists(a);
        w.rule();
        w.sheet(a, b, a, b);
        w.sheet(2, 12, a, b);
        w.puts(a, b);
        w.takes(a, b);
        w.joins(a, b, a);
        w.costs(a, b, a);
        w.sets(a, b);
        w.ends(a, b);
        w.day();
        w.best(a, b);
        w.many(a);
        w.below(a, b);
        w.below(0, b);
        w.rank(a);
        w.alike(a, b);
        w.surely(a);
        w.having(a, b, a, b);
        w.differ(a, b, a);
        w.differ(0, a, b);
        w.gap(a, b);
        w.gap(0, b);
        w.opens(a, b);
        w.opens(0, b);
        w.goes(a);
        w.skips(a, b);
        w.skips(0, b);
        w.heard(a, b);
        w.fits(a);
        w.asks(a);
        w.odds(a, b, a);
        w.odds(0, a, 3);
        w.duel(a);
        w.law();
        w.years(a, b);
        w.years(a, 40);
        w.keep(a);
        w.again(a);
        w.count(a);
    }
}

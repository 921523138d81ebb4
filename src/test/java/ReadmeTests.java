import java.nio.file.Files;
import java.nio.file.Path;
import java.util.ArrayList;
import java.util.List;

/** The example of README.md: its lines stand here as they stand there, and answer what it says of them. */
public final class ReadmeTests {
    private static int wrong = 0;

    public static void main(String[] args) throws Exception {
        example();
        linesAreHere();
        System.out.println(wrong == 0 ? "readme: the example answers as it says" : "readme: " + wrong + " faults");
        if (wrong != 0) {
            System.exit(1);
        }
    }

    private static void example() {
        BestWalks w = new BestWalks();
        w.puts(0, 5);
        w.puts(0, 7);
        w.puts(1, 3);
        int numbers = w.best(0, 2);
        long cost = w.row(0);
        long place = w.row(1);
        is("best", numbers, 2);
        is("its cost", cost, 10);
        is("its place in list 0", place, 1);
        is("its place in list 1", w.row(2), 0);

        w.sign('m' << 24 | '-' << 16 | 'l' << 8);
        w.end(3);
        int read = w.rule();
        int least = w.below(0, 2);
        is("rule", read, 0);
        is("below", least, 1);
        is("the greatest cost of these", w.row(0), 2);

        int subsets = w.opens(0, 3);
        long dearest = 0;
        StringBuilder costs = new StringBuilder();
        while (w.goes(0) >= 0) {
            dearest = w.row(0);
            costs.append(' ').append(dearest);
        }
        is("opens", subsets, 4);
        is("goes, all costs" + costs, costs.toString().equals(" 0 5 7 12") ? 1 : 0, 1);
        is("the dearest", dearest, 12);
        int left = w.undo();
        int stale = w.goes(0);
        is("undo", left, 2);
        is("the numbers that are left", w.count(0), 2);
        is("goes behind undo", stale, -4);
    }

    private static void is(String what, long got, long due) {
        if (got != due) {
            wrong++;
            System.out.println("readme: " + what + " is " + got + ", due is " + due);
        }
    }

    private static void linesAreHere() throws Exception {
        Path program = Path.of(System.getProperty("program", "src/main/java/BestWalks.java")).toAbsolutePath();
        Path checkout = program.getParent().getParent().getParent().getParent();
        List<String> here = codeOf(Files.readAllLines(checkout.resolve("src/test/java/ReadmeTests.java")));
        List<String> readme = Files.readAllLines(checkout.resolve("README.md"));
        int from = readme.indexOf("```java") + 1;
        List<String> rest = readme.subList(from, readme.size());
        int example = rest.indexOf("```");
        is("an example in README.md", from > 0 && example > 10 ? 1 : 0, 1);
        int next = 0;
        for (String line : codeOf(rest.subList(0, Math.max(0, example)))) {
            int found = here.subList(next, here.size()).indexOf(line);
            is("in README.md, but not here in this order: " + line, found >= 0 ? 1 : 0, 1);
            next += found + 1;
        }
    }

    private static List<String> codeOf(List<String> lines) {
        List<String> code = new ArrayList<>();
        for (String line : lines) {
            String plain = line.replaceAll("\\s*//.*", "").trim();
            if (!plain.isEmpty()) {
                code.add(plain);
            }
        }
        return code;
    }
}

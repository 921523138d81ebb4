import java.lang.management.ManagementFactory;
import java.lang.reflect.Constructor;
import java.lang.reflect.Field;
import java.lang.reflect.Method;
import java.lang.reflect.Modifier;
import java.nio.file.Files;
import java.nio.file.Path;
import java.util.Arrays;
import java.util.List;
import java.util.Set;
import java.util.TreeSet;

/** What can be seen of LANGUAGE.md's rules in the file and in the class, and what a run makes in the room. */
public final class LanguageTests {
    private static final String[] FACE = {
        "int sign(int)", "boolean end(int)", "int lists(int)", "int rule()", "int number(int,int)", "int edge(int,int)",
        "int sheet(int,int,int,int)", "int puts(int,int)", "int takes(int,int)", "int joins(int,int,int)",
        "int costs(int,int,int)", "int sets(int,int)", "int ends(int,int)", "int day()", "int undo()", "int best(int,int)",
        "int many(int)", "int below(int,int)", "int rank(int)", "int alike(int,int)", "int surely(int)",
        "int having(int,int,int,int)", "int differ(int,int,int)", "int gap(int,int)", "int opens(int,int)", "int goes(int)",
        "int skips(int,int)", "int heard(int,int)", "int forget()", "int fits(int)", "int asks(int)", "int odds(int,int,int)",
        "int duel(int)", "int law()", "int years(int,int)", "boolean keep(int)", "boolean again(int)", "int count(int)",
        "long row(int)"};
    private static final String[] RULED_OUT = {"->", "::", "catch", "try ", "finally", "synchronized", "assert ", "static {",
        "System.out", "Exact(", "import java.util.*", "instanceof", "var ", "protected ", "volatile", "transient", "native",
        "Random", "Thread", "currentTime", "nanoTime", "hashCode", "toString", "getClass", "String.format", "double", "float"};
    private static int wrong = 0;

    public static void main(String[] args) throws Exception {
        face();
        insideClasses();
        source();
        room();
        System.out.println(wrong == 0 ? "language: all rules that were looked at hold" : "language: " + wrong + " faults");
        if (wrong != 0) {
            System.exit(1);
        }
    }

    private static void must(boolean holds, String what) {
        if (!holds) {
            wrong++;
            System.out.println("language: " + what);
        }
    }

    private static void face() throws Exception {
        Set<String> due = new TreeSet<>(Arrays.asList(FACE));
        Set<String> got = new TreeSet<>();
        Set<String> names = new TreeSet<>();
        for (Method m : BestWalks.class.getDeclaredMethods()) {
            if (Modifier.isPublic(m.getModifiers())) {
                StringBuilder b = new StringBuilder(m.getReturnType() + " " + m.getName() + "(");
                for (Class<?> p : m.getParameterTypes()) {
                    b.append(b.charAt(b.length() - 1) == '(' ? "" : ",").append(p);
                }
                got.add(b.append(")").toString());
                names.add(m.getName());
            }
        }
        must(due.equals(got), "the face has " + got);
        for (Method m : BestWalks.class.getDeclaredMethods()) {
            boolean isPublic = Modifier.isPublic(m.getModifiers());
            must(isPublic || Modifier.isPrivate(m.getModifiers()), "1: neither public nor private: " + m.getName());
            must(isPublic || !names.contains(m.getName()), "1: a private " + m.getName());
        }
        for (Class<?> c : BestWalks.class.getDeclaredClasses()) {
            for (Method m : c.getDeclaredMethods()) {
                must(!names.contains(m.getName()), "1: " + c.getName() + " has a " + m.getName());
            }
        }
        for (Field f : BestWalks.class.getDeclaredFields()) {
            must(Modifier.isPrivate(f.getModifiers()) || f.getName().equals("NONE"), "1: a field " + f.getName());
        }
        int m = BestWalks.class.getModifiers();
        must(Modifier.isPublic(m) && Modifier.isFinal(m), "1: the class is public and final");
        Constructor<?>[] made = BestWalks.class.getDeclaredConstructors();
        must(made.length == 1 && Modifier.isPublic(made[0].getModifiers()), "1: one public constructor");
        must(BestWalks.class.getField("NONE").getInt(null) == -1, "1: NONE");
        for (String thrower : List.of("number", "edge", "row")) {
            for (Method t : BestWalks.class.getDeclaredMethods()) {
                must(!t.getName().equals(thrower) || t.getExceptionTypes().length == 1, "1: " + thrower + " throws");
            }
        }
    }

    private static void insideClasses() {
        Class<?>[] inside = BestWalks.class.getDeclaredClasses();
        must(inside.length + 1 <= 12, "11: " + (inside.length + 1) + " classes");
        for (Class<?> c : inside) {
            must(Modifier.isStatic(c.getModifiers()) && !Modifier.isPublic(c.getModifiers()), "1: class " + c.getName());
            looks(c);
        }
        looks(BestWalks.class);
    }

    private static void looks(Class<?> c) {
        int fields = 0;
        for (Field f : c.getDeclaredFields()) {
            boolean isStatic = Modifier.isStatic(f.getModifiers());
            fields += isStatic ? 0 : 1;
            must(!isStatic || Modifier.isFinal(f.getModifiers()), "5: static " + f.getName());
        }
        must(fields <= 20, "11: " + c.getName() + " has " + fields + " fields");
        for (Method m : c.getDeclaredMethods()) {
            must(m.getParameterCount() <= 7, "11: " + m.getName() + " has " + m.getParameterCount() + " parameters");
        }
    }

    private static void source() throws Exception {
        String path = System.getProperty("program", "src/main/java/BestWalks.java");
        List<String> lines = Files.readAllLines(Path.of(path));
        int imports = 0;
        for (int i = 0; i < lines.size(); i++) {
            String line = lines.get(i);
            String code = line.replaceAll("^\\s*(//|/\\*|\\*).*", "");
            must(line.chars().allMatch(c -> c >= 32 && c < 127), "a sign in line " + (i + 1));
            must(!code.startsWith("package"), "a package");
            imports += code.startsWith("import") ? 1 : 0;
            for (String out : RULED_OUT) {
                must(!code.contains(out), "line " + (i + 1) + " has " + out);
            }
        }
        must(imports == 1 && lines.contains("import java.util.NoSuchElementException;"), "4: imports");
        methodLengths(lines);
    }

    /** Methods open with a brace at the end of a line of 4 or 8 blanks and close at the same depth. */
    private static void methodLengths(List<String> lines) {
        for (String blanks : List.of("    ", "        ")) {
            int from = -1;
            for (int i = 0; i < lines.size(); i++) {
                String line = lines.get(i);
                boolean here = line.startsWith(blanks) && line.length() > blanks.length() && line.charAt(blanks.length()) != ' ';
                if (here && line.contains("(") && line.endsWith("{")) {
                    from = i;
                } else if (here && line.equals(blanks + "}") && from >= 0) {
                    must(i - from < 60, "11: a method of " + (i - from + 1) + " lines at " + (from + 1));
                    from = -1;
                }
            }
        }
    }

    /** 512 of the dearest calls make, with their object, a small part of the room. */
    private static void room() {
        com.sun.management.ThreadMXBean bean = (com.sun.management.ThreadMXBean) ManagementFactory.getThreadMXBean();
        dearRun(1);
        long before = bean.getThreadAllocatedBytes(Thread.currentThread().getId());
        dearRun(2);
        long bytes = bean.getThreadAllocatedBytes(Thread.currentThread().getId()) - before;
        must(bytes < 200_000, "12: a run of 512 calls makes " + bytes + " bytes");
    }

    private static void dearRun(int seed) {
        BestWalks w = new BestWalks();
        for (int i = 0; i < 64; i++) {
            w.years(seed + i, 40);
            w.asks(0);
            w.fits(1);
            w.best(4, 1);
            w.sign(('s' << 24) | ('*' << 16) | ('m' << 8) | ' ');
            w.end(3);
            w.rule();
            w.day();
        }
    }
}

import java.io.IOException;
import java.nio.file.Files;
import java.nio.file.Path;
import java.util.ArrayList;
import java.util.Comparator;
import java.util.List;
import java.util.concurrent.ExecutorService;
import java.util.concurrent.Executors;
import java.util.concurrent.Future;
import java.util.concurrent.TimeUnit;
import java.util.regex.Matcher;
import java.util.regex.Pattern;
import java.util.stream.Stream;

/**
 * Tries the tests: changes the class in one small way after another and tells which changes no test notices.
 * Run by hand from the project's root: java src/tools/java/Mutants.java [test ..]; without tests, DocumentTest.
 */
public final class Mutants {
    private static final Path SOURCE = Path.of("src/main/java/EdgeEchoes.java");
    private static final int SECONDS = 120;
    private static final String DOES_NOT_COMPILE = "does not compile";
    private static final String[][] CHANGES = {
        {"(?<![<>=!-])<(?![<=>])", "<="}, {"(?<![<>-])<=", "<"}, {"(?<![<>-])>(?![>=])", ">="}, {"(?<![<>-])>=", ">"},
        {"==", "!="}, {"!=", "=="}, {"&&", "||"}, {"\\|\\|", "&&"}, {" \\+ ", " - "}, {" - ", " + "}, {" \\* ", " + "},
        {" / ", " * "}, {"\\+\\+", "--"}, {"\\+=", "-="}, {"-=", "+="}, {"Math\\.max", "Math.min"}, {"Math\\.min", "Math.max"},
        {"\\btrue\\b", "false"}, {"\\bfalse\\b", "true"}, {"(?<=\\()!", ""}, {"return UNKNOWN", "return OUTSIDE"},
        {"return OUTSIDE", "return NOT"}, {"return NOT", "return OUTSIDE"}, {": FULL", ": NOT"}, {"\\? FULL", "? NOT"},
        {": NONE", ": 0"}, {"return NONE", "return 0"}, {"= NONE", "= 0"}, {"\\bCUT\\b(?! =)", "SHORT"},
        {"\\bSHORT\\b(?! =)", "CUT"}, {"\\bWHOLE\\b(?! =)", "CUT"}, {"= -(?=[a-z])", "= "}, {"return -(?=[a-z])", "return "},
    };

    private record Mutant(int line, String change, String text) {
    }

    private Mutants() {
    }

    public static void main(String[] args) throws Exception {
        List<String> tests = args.length > 0 ? List.of(args) : List.of("DocumentTest");
        Path work = Files.createTempDirectory("mutants");
        run(SECONDS, work, "javac", "-d", work.resolve("tests").toString(), SOURCE.toString(), "src/test/java/*.java");
        List<Mutant> mutants = all(Files.readAllLines(SOURCE));
        ExecutorService pool = Executors.newFixedThreadPool(Runtime.getRuntime().availableProcessors());
        List<Future<String>> found = new ArrayList<>();
        for (int k = 0; k < mutants.size(); k++) {
            Mutant mutant = mutants.get(k);
            Path own = work.resolve("m" + k);
            found.add(pool.submit(() -> tried(mutant, own, work, tests)));
        }
        int unnoticed = 0;
        int broken = 0;
        for (Future<String> future : found) {
            String told = future.get();
            if (told.equals(DOES_NOT_COMPILE)) {
                broken++;
            } else if (!told.isEmpty()) {
                unnoticed++;
                System.out.println(told);
            }
        }
        pool.shutdown();
        delete(work);
        System.out.println(mutants.size() + " changes, of which " + broken + " do not compile, and " + unnoticed
            + " are not noticed by " + tests);
    }

    /** Empty, if a test notices the change. */
    private static String tried(Mutant mutant, Path own, Path work, List<String> tests) throws Exception {
        Files.createDirectories(own);
        Path file = own.resolve("EdgeEchoes.java");
        Files.writeString(file, mutant.text);
        if (run(SECONDS, own, "javac", "-d", own.toString(), file.toString()) != 0) {
            delete(own);
            return DOES_NOT_COMPILE;
        }
        boolean noticed = false;
        for (int k = 0; k < tests.size() && !noticed; k++) {
            String path = own + ":" + work.resolve("tests");
            noticed = run(SECONDS, own, "java", "-XX:TieredStopAtLevel=1", "-cp", path, tests.get(k), SOURCE.toString()) != 0;
        }
        delete(own);
        return noticed ? "" : "line " + mutant.line + ": " + mutant.change;
    }

    private static int run(int seconds, Path own, String... words) throws IOException, InterruptedException {
        Files.createDirectories(own);
        Process process = new ProcessBuilder("sh", "-c", String.join(" ", words))
            .redirectErrorStream(true).redirectOutput(own.resolve("said").toFile()).start();
        if (!process.waitFor(seconds, TimeUnit.SECONDS)) {
            process.descendants().forEach(ProcessHandle::destroyForcibly);
            process.destroyForcibly();
            return 1;
        }
        return process.exitValue();
    }

    private static void delete(Path path) throws IOException {
        try (Stream<Path> files = Files.walk(path)) {
            for (Path file : files.sorted(Comparator.reverseOrder()).toList()) {
                Files.delete(file);
            }
        }
    }

    private static List<Mutant> all(List<String> lines) {
        List<Mutant> mutants = new ArrayList<>();
        for (int k = 0; k < lines.size(); k++) {
            String line = lines.get(k);
            String bare = line.strip();
            if (bare.startsWith("//") || bare.startsWith("*") || bare.startsWith("/*") || bare.startsWith("import")) {
                continue;
            }
            for (String[] change : CHANGES) {
                Matcher at = Pattern.compile(change[0]).matcher(line);
                while (at.find()) {
                    add(mutants, lines, k, line.substring(0, at.start()) + change[1] + line.substring(at.end()));
                }
            }
            Matcher number = Pattern.compile("(?<![\\w.])\\d+L?\\b").matcher(line);
            while (number.find()) {
                String one = number.group().endsWith("L") ? " + 1L)" : " + 1)";
                add(mutants, lines, k, line.substring(0, number.start()) + "(" + number.group() + one + line.substring(number.end()));
            }
            if (bare.matches("[a-z].*;") && !bare.matches("(return|break|private|public|final|int|long|boolean) .*|break;|case .*")) {
                add(mutants, lines, k, "");
            }
        }
        return mutants;
    }

    private static void add(List<Mutant> mutants, List<String> lines, int k, String changed) {
        List<String> text = new ArrayList<>(lines);
        text.set(k, changed);
        String told = lines.get(k).strip() + "   becomes   " + (changed.isBlank() ? "nothing" : changed.strip());
        mutants.add(new Mutant(k + 1, told, String.join("\n", text)));
    }
}

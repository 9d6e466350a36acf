import java.io.File;
import java.io.IOException;
import java.nio.file.Files;
import java.nio.file.Path;
import java.util.ArrayList;
import java.util.List;
import java.util.TreeSet;
import java.util.concurrent.Callable;
import java.util.concurrent.ExecutorService;
import java.util.concurrent.Executors;
import java.util.concurrent.Future;
import java.util.concurrent.TimeUnit;

/**
 * Shows that the test of a sentence fails if the sentence is broken: makes each break that stands in
 * breaks.txt in a copy of the class, and runs the test of that sentence alone.
 */
public final class Mutants {
    private static final Path SOURCE = Path.of("src/main/java/RoleDoublingPlanner.java");
    private static final Path BREAKS = Path.of("src/mutants/breaks.txt");
    private static final Path OUT = Path.of("build/mutants");
    private static final String[] TESTS = {"DescriptionSentences", "CommandSentences", "AnswerSentences"};
    private static final int SECONDS = 60;

    private record Mutant(int number, String sentence, String source, String fault) {
    }

    /** The breaks of the file, each made in the source. */
    private static List<Mutant> mutants(String source) throws IOException {
        List<Mutant> made = new ArrayList<>();
        String sentence = "";
        String now = source;
        String old = "";
        String fault = "";
        int place = 0;
        List<String> lines = new ArrayList<>(Files.readAllLines(BREAKS));
        lines.add("@ the end");
        for (String line : lines) {
            String rest = line.length() < 2 ? "" : line.substring(2).replace("\\n", "\n");
            if (line.startsWith("@ ")) {
                if (!sentence.isEmpty()) {
                    made.add(new Mutant(made.size(), sentence, remove(now, old, place), fault));
                }
                sentence = rest;
                now = source;
                old = "";
                fault = "";
                place = 0;
            } else if (line.startsWith("at ")) {
                now = remove(now, old, place);
                old = "";
                place = Math.max(0, now.indexOf(line.substring(3)));
                fault += now.contains(line.substring(3)) ? "" : "there is no " + line;
            } else if (line.startsWith("- ")) {
                now = remove(now, old, place);
                old = rest;
                fault += now.indexOf(old, place) < 0 ? "there is no " + line : "";
            } else if (line.startsWith("+ ")) {
                int at = now.indexOf(old, place);
                now = at < 0 ? now : now.substring(0, at) + rest + now.substring(at + old.length());
                old = "";
            }
        }
        return made;
    }

    /** A text without a line of its own that replaces it is taken out. */
    private static String remove(String text, String old, int place) {
        int at = old.isEmpty() ? -1 : text.indexOf(old, place);
        return at < 0 ? text : text.substring(0, at) + text.substring(at + old.length());
    }

    private static int run(Path output, String... command) throws IOException, InterruptedException {
        Process process = new ProcessBuilder(command).redirectErrorStream(true)
                .redirectOutput(output.toFile()).start();
        if (!process.waitFor(SECONDS, TimeUnit.SECONDS)) {
            process.destroyForcibly().waitFor();
            return -1;
        }
        return process.exitValue();
    }

    /** The files of the tests and of what they use; with the class they are compiled once. */
    private static void compileTests() throws IOException, InterruptedException {
        Files.createDirectories(OUT);
        List<String> command = new ArrayList<>(List.of("javac", "--release", "17", "-d", OUT + "/tests",
                SOURCE.toString(), "src/test/support/Run.java", "src/test/support/Sentences.java"));
        for (String test : TESTS) {
            command.add("src/test/java/" + test + ".java");
        }
        if (run(OUT.resolve("tests.out"), command.toArray(new String[0])) != 0) {
            throw new IllegalStateException(Files.readString(OUT.resolve("tests.out")));
        }
    }

    private static String testOf(String sentence) {
        if (sentence.startsWith("Promise ")) {
            int number = Integer.parseInt(sentence.substring(8, sentence.indexOf(':')));
            return number <= 13 ? "CommandSentences" : "AnswerSentences";
        }
        return "DescriptionSentences";
    }

    /** What is wrong with a break, or nothing if its test fails as it should. */
    private static String judge(Mutant mutant) throws IOException, InterruptedException {
        if (!mutant.fault.isEmpty()) {
            return mutant.fault;
        }
        Path dir = OUT.resolve("m" + mutant.number);
        Files.createDirectories(dir);
        Path source = dir.resolve("RoleDoublingPlanner.java");
        Files.writeString(source, mutant.source);
        if (run(dir.resolve("javac.out"), "javac", "--release", "17", "-d", dir.toString(), source.toString()) != 0) {
            return "does not compile: " + Files.readString(dir.resolve("javac.out"));
        }
        int code = run(dir.resolve("test.out"), "java", "-XX:TieredStopAtLevel=1", "-cp",
                dir + File.pathSeparator + OUT + "/tests", testOf(mutant.sentence), mutant.sentence);
        if (code == 0) {
            return "its test does not fail";
        }
        // A test that fails as it should tells an answer that is not due, and does not break down.
        boolean brokeDown = Files.readString(dir.resolve("test.out")).contains("Exception in thread");
        return code == 1 && !brokeDown ? "" : "its test does not end as it should: " + code;
    }

    private static int sentencesWithoutBreak(List<Mutant> mutants) throws IOException, InterruptedException {
        TreeSet<String> without = new TreeSet<>();
        for (String test : TESTS) {
            run(OUT.resolve("list.out"), "java", "-cp", OUT + "/tests", test, "?");
            for (String line : Files.readAllLines(OUT.resolve("list.out"))) {
                if (line.startsWith("? ")) {
                    without.add(line.substring(2) + "$");
                }
            }
        }
        for (Mutant mutant : mutants) {
            without.removeIf(sentence -> sentence.startsWith(mutant.sentence));
        }
        for (String sentence : without) {
            System.out.println("no break for: " + sentence);
        }
        return without.size();
    }

    public static void main(String[] args) throws Exception {
        compileTests();
        List<Mutant> mutants = mutants(Files.readString(SOURCE));
        ExecutorService workers = Executors.newFixedThreadPool(Runtime.getRuntime().availableProcessors());
        List<Future<String>> verdicts = new ArrayList<>();
        for (Mutant mutant : mutants) {
            Callable<String> work = () -> judge(mutant);
            verdicts.add(workers.submit(work));
        }
        int wrong = sentencesWithoutBreak(mutants);
        for (Mutant mutant : mutants) {
            String verdict = verdicts.get(mutant.number).get();
            if (!verdict.isEmpty()) {
                wrong++;
                System.out.println("break " + mutant.number + " of: " + mutant.sentence + "\n    " + verdict);
            }
        }
        workers.shutdown();
        System.out.println(mutants.size() + " breaks, " + wrong + " not as they should be");
        if (wrong != 0) {
            System.exit(1);
        }
    }
}

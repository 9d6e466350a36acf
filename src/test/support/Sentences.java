import java.io.IOException;
import java.io.UncheckedIOException;
import java.nio.file.Files;
import java.nio.file.Path;
import java.util.ArrayList;
import java.util.LinkedHashSet;
import java.util.List;
import java.util.Set;
import java.util.regex.Matcher;
import java.util.regex.Pattern;

/**
 * Tests that each hold one sentence of the document. At the end every sentence of the headings that
 * were looked at must have had its test, and every test its sentence.
 */
final class Sentences {
    interface Test {
        void on(Run x);
    }

    private static final Path DOCUMENT = Path.of("../shared/DOC.md");

    private static final Set<String> HEADINGS = new LinkedHashSet<>();
    private static final Set<String> HELD = new LinkedHashSet<>();
    private static String heading = "";
    private static String sentence = "";
    private static String onlyThis = "";
    private static int wrong;

    private Sentences() {
    }

    /**
     * Lets only the tests run of which heading and sentence start with the first argument, where $
     * stands for their end; a question mark lets none run and tells all of them.
     */
    static void choose(String[] arguments) {
        onlyThis = arguments.length == 0 ? "" : arguments[0];
    }

    /** The tests that follow hold sentences under this heading of the document. */
    static void under(String words) {
        heading = words;
        HEADINGS.add(words);
    }

    /** Runs the test of a sentence on a new object. */
    static void holds(String words, Test test) {
        sentence = words;
        if (!HELD.add(named())) {
            wrong("has two tests");
        }
        if (isChosen()) {
            test.on(new Run());
        }
    }

    /** Notes a sentence that can't be broken by any answer. */
    static void namesNoAnswer(String words) {
        sentence = words;
        HELD.add(named());
    }

    private static boolean isChosen() {
        if (onlyThis.equals("?")) {
            System.out.println("? " + named());
        }
        return (named() + "$").startsWith(onlyThis);
    }

    private static String named() {
        return heading + " | " + sentence;
    }

    static void wrong(String what) {
        wrong++;
        System.out.println(named() + "\n    " + what);
    }

    static void due(String what, Object got, Object want) {
        if (!got.equals(want)) {
            wrong(what + " is\n    " + got + "\n    due is\n    " + want);
        }
    }

    static int countOfWrong() {
        return wrong;
    }

    static void end() {
        tellSentencesWithoutTest();
        System.out.println(HELD.size() + " sentences, "
                + (wrong == 0 ? "all answers are as due" : wrong + " answers are not as due"));
        if (wrong != 0) {
            System.exit(1);
        }
    }

    private static void tellSentencesWithoutTest() {
        Set<String> inDocument = new LinkedHashSet<>();
        for (String words : HEADINGS) {
            for (String one : sentencesUnder(words)) {
                inDocument.add(words + " | " + one);
            }
        }
        for (String one : inDocument) {
            if (!HELD.contains(one)) {
                wrong++;
                System.out.println(one + "\n    has no test");
            }
        }
        for (String one : HELD) {
            if (!inDocument.contains(one)) {
                wrong++;
                System.out.println(one + "\n    does not stand in the document");
            }
        }
    }

    /** The lines of the document under a heading. */
    private static List<String> linesUnder(String words) {
        List<String> found = new ArrayList<>();
        boolean under = false;
        try {
            for (String line : Files.readAllLines(DOCUMENT)) {
                if (line.startsWith("## ")) {
                    under = line.equals("## " + words);
                } else if (under) {
                    found.add(line);
                }
            }
        } catch (IOException e) {
            throw new UncheckedIOException(e);
        }
        return found;
    }

    private static List<String> sentencesUnder(String words) {
        List<String> found = new ArrayList<>();
        boolean inExamples = false;
        for (String line : linesUnder(words)) {
            inExamples = !line.isBlank() && (inExamples || line.startsWith("Examples:"));
            boolean isSignature = line.startsWith("`");
            if (!inExamples && !line.isBlank() && !isSignature) {
                found.addAll(parts(line.strip()));
            }
        }
        return found;
    }

    /** What a method returns is split into its cases, and other lines into their sentences. */
    private static List<String> parts(String line) {
        if (line.startsWith("- `")) {
            return List.of(line);
        }
        if (line.startsWith("Returns ") && line.contains("; ")) {
            return List.of(line.substring(0, line.length() - 1).split("; "));
        }
        return List.of(line.split("(?<=\\.) (?=[A-Z])"));
    }

    /** Makes the calls of each example that stands under a heading of the document. */
    static void examples(String words) {
        String all = String.join(" ", linesUnder(words));
        int start = all.indexOf("Examples:");
        String examples = all.substring(start, all.indexOf("The constants:"));
        Matcher one = Pattern.compile("(\\d)\\. ([^:]*): (.*?)\\.(?= |$)").matcher(examples);
        int found = 0;
        while (one.find()) {
            found++;
            sentence = "Example " + one.group(1) + ": " + one.group(2);
            if (isChosen()) {
                new Run().calls(one.group(3));
            }
        }
        sentence = "Examples";
        due("the number of examples", found, 5);
    }
}

import java.io.IOException;
import java.lang.reflect.Field;
import java.lang.reflect.InvocationTargetException;
import java.lang.reflect.Method;
import java.nio.file.Files;
import java.nio.file.Path;
import java.util.regex.Matcher;
import java.util.regex.Pattern;

/** README.md: its calls answer what it says, and it names every method and the files it speaks of. */
public final class ReadmeTests {
    private static final Pattern BLOCK = Pattern.compile("```java\n(.*?)```", Pattern.DOTALL);
    private static final Pattern NEW = Pattern.compile("RoleDoublingPlanner planner = new .*");
    private static final Pattern TEXT = Pattern.compile("String text = \"([^\"]*)\";");
    private static final Pattern LOOP = Pattern.compile(" *planner\\.append\\(text\\.charAt\\(i\\)\\);");
    private static final Pattern CALL = Pattern.compile("planner\\.(\\w+)\\(([^)]*)\\); +// (-?\\d+)(: ([A-Z_]{3,}).*)?.*");

    private static int wrong;
    private static int made;
    private static RoleDoublingPlanner planner;
    private static String text;

    private static void due(String what, Object got, Object want) {
        if (!got.equals(want)) {
            wrong++;
            System.out.println(what + " is " + got + ", due is " + want);
        }
    }

    private static void example(String block) throws ReflectiveOperationException {
        planner = null;
        text = "";
        for (String line : block.split("\n")) {
            Matcher typed = TEXT.matcher(line);
            Matcher call = CALL.matcher(line);
            if (NEW.matcher(line).matches()) {
                planner = new RoleDoublingPlanner();
            } else if (typed.matches()) {
                text = typed.group(1);
            } else if (LOOP.matcher(line).matches()) {
                for (char c : text.toCharArray()) {
                    planner.append(c);
                }
            } else if (call.matches()) {
                call(call, line);
            } else if (line.contains("planner")) {
                due("a line that this test can't read", line, "");
            }
        }
    }

    private static void call(Matcher call, String line) throws ReflectiveOperationException {
        made++;
        int want = Integer.parseInt(call.group(3));
        due(line, answer(call.group(1), call.group(2)), want);
        if (call.group(5) != null) {
            due(call.group(5), RoleDoublingPlanner.class.getField(call.group(5)).getInt(null), want);
        }
    }

    private static int answer(String name, String list) throws ReflectiveOperationException {
        String[] words = list.isBlank() ? new String[0] : list.split(", ");
        Object[] arguments = new Object[words.length];
        for (int i = 0; i < words.length; i++) {
            boolean isSign = words[i].startsWith("'");
            arguments[i] = isSign ? (int) words[i].charAt(1) : Integer.parseInt(words[i]);
        }
        for (Method m : RoleDoublingPlanner.class.getDeclaredMethods()) {
            if (m.getName().equals(name) && m.getParameterCount() == words.length) {
                try {
                    return (Integer) m.invoke(planner, arguments);
                } catch (InvocationTargetException e) {
                    due(name, e.getCause(), "an answer");
                }
            }
        }
        due("the method " + name, "not there", "there");
        return 0;
    }

    private static void namesTheFace(String readme) {
        for (Method m : RoleDoublingPlanner.class.getMethods()) {
            if (m.getDeclaringClass() == RoleDoublingPlanner.class) {
                due(m.getName() + " in the table of calls", readme.contains("`" + m.getName() + "`"), true);
            }
        }
        for (Field f : RoleDoublingPlanner.class.getFields()) {
            boolean isErrorCode = f.getName().matches("INVALID_ARGUMENT|NOT_POSSIBLE|CAPACITY_EXCEEDED|NOT_FOUND");
            if (isErrorCode) {
                due(f.getName() + " among the error codes", readme.contains("`" + f.getName() + "`"), true);
            }
        }
    }

    private static void namesFilesThatAreThere(String readme) throws IOException {
        String tests = readme.substring(readme.indexOf("## Tests"));
        Matcher path = Pattern.compile("(?<![\\w/.])((?:\\.\\./shared|\\.ci|src)/[\\w./]*\\w)").matcher(readme);
        while (path.find()) {
            due(path.group(1) + " is there", Files.exists(Path.of(path.group(1))), true);
        }
        try (var files = Files.list(Path.of("src/test/java"))) {
            for (Path file : files.toList()) {
                String name = file.getFileName().toString().replace(".java", "");
                due(name + " among the tests", tests.contains("`" + name + "`"), true);
            }
        }
    }

    public static void main(String[] args) throws IOException, ReflectiveOperationException {
        String readme = Files.readString(Path.of("README.md"));
        Matcher block = BLOCK.matcher(readme);
        while (block.find()) {
            example(block.group(1));
        }
        due("the page has calls with answers", made > 10, true);
        namesTheFace(readme);
        namesFilesThatAreThere(readme);
        System.out.println(wrong == 0 ? "all answers are as due" : wrong + " answers are not as due");
        if (wrong != 0) {
            System.exit(1);
        }
    }
}

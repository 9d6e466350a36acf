import java.lang.reflect.InvocationTargetException;
import java.lang.reflect.Method;
import java.util.HashMap;
import java.util.Map;
import java.util.regex.Matcher;
import java.util.regex.Pattern;

/** A new planner and the calls that a test makes on it, written as the document writes its examples. */
final class Run {
    /** Behind so many calls the document leaves an object's answers free. */
    private static final int CALLS_PROMISED = 512;

    private static final Pattern CALL = Pattern.compile("(\\w+)\\(([^)]*)\\)");
    private static final Map<String, Method> METHODS = new HashMap<>();
    private static final Map<String, Integer> NAMES = new HashMap<>();

    static {
        for (Method m : RoleDoublingPlanner.class.getMethods()) {
            if (m.getDeclaringClass() == RoleDoublingPlanner.class) {
                METHODS.put(m.getName(), m);
            }
        }
        // The values stand here as the document gives them, so that a wrong constant is found.
        String[] names = {"INVALID_ARGUMENT -1001", "NOT_POSSIBLE -1002", "CAPACITY_EXCEEDED -1003",
            "NOT_FOUND -1004", "NO_CONFLICT 0", "VOICE 1", "OVERLAP 2", "CHANGE 3", "UNKNOWN_WORD 1",
            "BAD_NUMBER 2", "OUT_OF_RANGE 3", "TOO_MANY 4", "MIN -2147483648", "MAX 2147483647"};
        for (String name : names) {
            String[] parts = name.split(" ");
            NAMES.put(parts[0], Integer.valueOf(parts[1]));
        }
    }

    private final RoleDoublingPlanner planner = new RoleDoublingPlanner();
    private int made;

    /** Makes the calls of a text like "cast(0, 0) = 1; cast(0, 8) = INVALID_ARGUMENT". */
    Run calls(String calls) {
        for (String call : calls.split(";")) {
            if (!call.isBlank()) {
                String[] sides = call.strip().split(" = ");
                due(sides[0], value(sides[1]));
            }
        }
        return this;
    }

    /** Makes one call of which the answer is worked out by the test. */
    Run due(String call, int want) {
        int got = ask(call);
        if (got != want) {
            Sentences.wrong(call + " answered " + got + ", due is " + want);
        }
        return this;
    }

    /** Makes one call and tells its answer. */
    int ask(String call) {
        Matcher m = CALL.matcher(call.strip());
        if (!m.matches() || !METHODS.containsKey(m.group(1))) {
            throw new IllegalArgumentException("no call: " + call);
        }
        String[] words = m.group(2).isBlank() ? new String[0] : m.group(2).split(",");
        Object[] arguments = new Object[words.length];
        for (int i = 0; i < words.length; i++) {
            arguments[i] = value(words[i]);
        }
        return answer(METHODS.get(m.group(1)), arguments);
    }

    private int answer(Method method, Object[] arguments) {
        made++;
        if (made > CALLS_PROMISED) {
            throw new IllegalStateException("a test makes more calls than are promised to be answered");
        }
        try {
            return (Integer) method.invoke(planner, arguments);
        } catch (InvocationTargetException e) {
            Sentences.wrong(method.getName() + " threw " + e.getCause());
            return Integer.MIN_VALUE;
        } catch (IllegalAccessException e) {
            throw new IllegalStateException(e);
        }
    }

    private static int value(String word) {
        Integer named = NAMES.get(word.strip());
        return named != null ? named : Integer.parseInt(word.strip());
    }

    int callsMade() {
        return made;
    }

    /** Appends all signs of a text. */
    Run type(String text) {
        for (int i = 0; i < text.length(); i++) {
            ask("append(" + (int) text.charAt(i) + ")");
        }
        return this;
    }

    /** Configures the planner by a text that must be well-formed, and leaves the text there. */
    Run play(String text) {
        ask("clearText()");
        type(text);
        int roles = ask("configure()");
        if (roles < 1) {
            Sentences.wrong("configure() answered " + roles + " for " + text);
        }
        return this;
    }

    /** What can be seen of the play and of its casting, without changing them. */
    String playSeen() {
        StringBuilder seen = new StringBuilder();
        int roles = see(seen, "roleCount()");
        see(seen, "appearanceCount()");
        int length = see(seen, "playLength()");
        // A long play is looked at every few lines: a run has only so many calls.
        for (int time = 0; time < length; time += 1 + length / 20) {
            see(seen, "onStage(" + time + ")");
        }
        for (int role = 0; role < roles; role++) {
            see(seen, "actorOf(" + role + ")");
            for (int other = 0; other < role; other++) {
                see(seen, "conflict(" + role + ", " + other + ")");
                see(seen, "slack(" + role + ", " + other + ")");
            }
        }
        return seen.toString();
    }

    /** All that can be seen, the text and what undo brings back too; it uses the run up. */
    String allSeen() {
        StringBuilder seen = new StringBuilder(playSeen());
        see(seen, "firstError()");
        see(seen, "errorReason()");
        for (int left = see(seen, "undo()"); left >= 0; left = see(seen, "undo()")) {
            seen.append(playSeen());
        }
        see(seen, "configure()");
        seen.append(playSeen());
        see(seen, "clearText()");
        return seen.toString();
    }

    private int see(StringBuilder seen, String call) {
        int got = ask(call);
        seen.append(call).append(" = ").append(got).append("; ");
        return got;
    }
}

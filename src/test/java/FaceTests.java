import java.io.IOException;
import java.lang.reflect.Field;
import java.lang.reflect.Method;
import java.lang.reflect.Modifier;
import java.nio.file.Files;
import java.nio.file.Path;
import java.util.ArrayList;
import java.util.List;
import java.util.Set;
import java.util.TreeSet;
import java.util.regex.Matcher;
import java.util.regex.Pattern;

/** The public face of the class, and the rules of LANGUAGE.md that can be told from its text. */
public final class FaceTests {
    private static final Path SOURCE = Path.of("src/main/java/RoleDoublingPlanner.java");

    private static final String METHODS = "append(int) clearText() firstError() errorReason() "
            + "configure() addAppearance(int,int,int,int) removeAppearance(int) "
            + "setChangeTimes(int,int,int) cast(int,int) uncast(int) adoptFirstCast() undo() "
            + "roleCount() appearanceCount() playLength() onStage(int) peak() rolesInScene(int) "
            + "conflict(int,int) conflictCount() slack(int,int) actorOf(int) rolesOf(int) "
            + "tightestChange(int) cliqueNumber() leastCast() firstCastActor(int) greedyCast() "
            + "leastCastIfFaster(int) speedUpFor(int)";

    private static final String CONSTANTS = "INVALID_ARGUMENT=-1001 NOT_POSSIBLE=-1002 "
            + "CAPACITY_EXCEEDED=-1003 NOT_FOUND=-1004 LOW=0 HIGH=1 CHILD=2 NO_CONFLICT=0 VOICE=1 "
            + "OVERLAP=2 CHANGE=3 UNKNOWN_WORD=1 BAD_NUMBER=2 OUT_OF_RANGE=3 TOO_MANY=4";

    private static final Path DOCUMENT = Path.of("../shared/DOC.md");

    private static int wrong;

    private static void due(String what, Object got, Object want) {
        if (!got.equals(want)) {
            wrong++;
            System.out.println(what + " is " + got + ", due is " + want);
        }
    }

    private static void publicFace() throws IllegalAccessException {
        Class<?> face = RoleDoublingPlanner.class;
        due("the class", Modifier.toString(face.getModifiers()), "public final");
        due("constructors", face.getDeclaredConstructors().length, 1);
        due("public constructors without parameters", face.getConstructors()[0].toString(),
                "public RoleDoublingPlanner()");
        Set<String> methods = new TreeSet<>();
        Set<String> privates = new TreeSet<>();
        for (Method m : face.getDeclaredMethods()) {
            if (Modifier.isPrivate(m.getModifiers())) {
                privates.add(m.getName());
            } else {
                due(m.getName(), Modifier.toString(m.getModifiers()), "public");
                due(m.getName() + " answers", m.getReturnType(), int.class);
                String s = m.toString();
                methods.add(m.getName() + s.substring(s.indexOf('(')));
            }
        }
        due("the methods", methods, new TreeSet<>(List.of(METHODS.split(" "))));
        for (String m : methods) {
            due("private " + m, privates.contains(m.substring(0, m.indexOf('('))), false);
        }
        Set<String> constants = new TreeSet<>();
        for (Field f : face.getDeclaredFields()) {
            if (!Modifier.isPrivate(f.getModifiers())) {
                due(f.getName(), Modifier.toString(f.getModifiers()), "public static final");
                constants.add(f.getName() + "=" + f.getInt(null));
            }
        }
        due("the constants", constants, new TreeSet<>(List.of(CONSTANTS.split(" "))));
    }

    /** The lists above are the face that the document writes out, no more and no less. */
    private static void faceOfTheDocument() throws IOException {
        String face = Files.readString(DOCUMENT).split("```")[1];
        Set<String> methods = new TreeSet<>();
        Matcher method = Pattern.compile("public int (\\w+)\\(([^)]*)\\);").matcher(face);
        while (method.find()) {
            methods.add(method.group(1) + "(" + method.group(2).replaceAll("int \\w+", "int").replace(" ", "") + ")");
        }
        due("the document's methods", methods, new TreeSet<>(List.of(METHODS.split(" "))));
        Set<String> constants = new TreeSet<>();
        Matcher constant = Pattern.compile("(\\w+) = (-?\\d+)").matcher(face);
        while (constant.find()) {
            constants.add(constant.group(1) + "=" + constant.group(2));
        }
        due("the document's constants", constants, new TreeSet<>(List.of(CONSTANTS.split(" "))));
    }

    /** The methods and constructors of the source, each as its lines, the head first. */
    private static List<List<String>> methodsOf(String code) {
        Pattern head = Pattern.compile("( {4}| {8})(?! |for|if|while|switch)[\\w\\[\\] ]+\\([^)]*\\) \\{");
        List<List<String>> methods = new ArrayList<>();
        String end = "";
        for (String line : code.split("\n")) {
            Matcher starts = head.matcher(line);
            if (end.isEmpty() && starts.matches()) {
                methods.add(new ArrayList<>());
                end = starts.group(1) + "}";
            }
            if (!end.isEmpty()) {
                methods.get(methods.size() - 1).add(line);
            }
            if (line.equals(end)) {
                end = "";
            }
        }
        return methods;
    }

    /** Objects are made in constructors and fields alone, so that calls need no room of their own. */
    private static void noCallMakesObjects(List<String> method) {
        boolean isConstructor = method.get(0).matches(" *(public )?[A-Z]\\w*\\(.*");
        for (String line : method) {
            boolean makes = line.matches(".*(\\bnew\\b|\\.clone\\(|copyOf|= \\{).*");
            due("an object made in" + method.get(0), makes && !isConstructor, false);
        }
    }

    private static void classesInside() {
        List<Class<?>> all = new ArrayList<>(List.of(RoleDoublingPlanner.class.getDeclaredClasses()));
        due("at most eleven classes inside", all.size() <= 11, true);
        all.add(RoleDoublingPlanner.class);
        for (Class<?> c : all) {
            int fields = 0;
            for (Field f : c.getDeclaredFields()) {
                boolean fixed = Modifier.isFinal(f.getModifiers());
                fields += Modifier.isStatic(f.getModifiers()) ? 0 : 1;
                due(c + "." + f.getName() + " is static and not final",
                        Modifier.isStatic(f.getModifiers()) && !fixed, false);
            }
            due(c + " has at most twenty fields", fields <= 20, true);
            for (Method m : c.getDeclaredMethods()) {
                due(m + " takes at most seven", m.getParameterCount() <= 7, true);
            }
        }
        for (Class<?> c : RoleDoublingPlanner.class.getDeclaredClasses()) {
            for (Method m : c.getDeclaredMethods()) {
                due(m + " bears a public name", (" " + METHODS).contains(" " + m.getName() + "("), false);
            }
            due(c + " is static", Modifier.isStatic(c.getModifiers()), true);
            due(c + " is public or protected",
                    (c.getModifiers() & (Modifier.PUBLIC | Modifier.PROTECTED)) != 0, false);
        }
    }

    private static String withoutComments(String source) {
        return source.replaceAll("(?s)/\\*.*?\\*/", "").replaceAll("//[^\n]*", "");
    }

    private static void forbiddenWords(String code) {
        String noTexts = code.replaceAll("\"[^\"\n]*\"", "TEXT");
        String[] forbidden = {"\\bthrow\\b", "\\bthrows\\b", "\\btry\\b", "\\bcatch\\b", "\\bassert\\b",
            "\\bsynchronized\\b", "\\bimport\\b", "\\bpackage\\b", "->", "::", "\\bObject\\b", "\\bequals\\b",
            "\\bhashCode\\b", "\\btoString\\b", "Exact\\b", "\\bprotected\\b", "\\bdouble\\b", "\\bvar\\b",
            "TEXT\\s*\\+", "\\+\\s*TEXT", "static\\s*\\{", "while\\s*\\(true\\)", "for\\s*\\(;;"};
        for (String f : forbidden) {
            Matcher m = Pattern.compile(f).matcher(noTexts);
            due("the source uses " + f, m.find(), false);
        }
        Matcher library = Pattern.compile("\\b(System|Math|Integer|Long|Arrays)\\.(\\w+)").matcher(code);
        Set<String> allowed = Set.of("System.arraycopy", "Math.max", "Math.min", "Integer.bitCount");
        while (library.find()) {
            due(library.group() + " is allowed", allowed.contains(library.group()), true);
        }
        due("signs beyond 127", code.chars().anyMatch(c -> c > 127), false);
    }

    public static void main(String[] args) throws IOException, IllegalAccessException {
        publicFace();
        faceOfTheDocument();
        classesInside();
        String code = withoutComments(Files.readString(SOURCE));
        forbiddenWords(code);
        List<List<String>> methods = methodsOf(code);
        due("the methods are found", methods.size() > METHODS.split(" ").length, true);
        for (List<String> method : methods) {
            due(method.get(0) + " is short", method.size() <= 60, true);
            noCallMakesObjects(method);
        }
        System.out.println(wrong == 0 ? "all answers are as due" : wrong + " answers are not as due");
        if (wrong != 0) {
            System.exit(1);
        }
    }
}

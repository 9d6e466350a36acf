import java.util.ArrayDeque;
import java.util.ArrayList;
import java.util.Arrays;
import java.util.Deque;
import java.util.List;
import java.util.Random;

/**
 * Random runs of calls, answered both by the class and by a slow model that follows the words of
 * the document: line by line through the play, pair by pair, and every cast in turn.
 */
public final class ModelTests {
    private static final int INVALID = -1001;
    private static final int NOT_POSSIBLE = -1002;
    private static final int FULL = -1003;
    private static final int NOT_FOUND = -1004;

    record Appearance(int role, int scene, int enter, int exit) {}

    record Role(int voice, int out, int in) {}

    static final class State {
        final List<Integer> scenes = new ArrayList<>();
        final List<Role> roles = new ArrayList<>();
        final List<Appearance> appearances = new ArrayList<>();
        final int[] actors = new int[8];

        State() {
            Arrays.fill(actors, NOT_FOUND);
        }

        State copy() {
            State s = new State();
            s.scenes.addAll(scenes);
            s.roles.addAll(roles);
            s.appearances.addAll(appearances);
            System.arraycopy(actors, 0, s.actors, 0, 8);
            return s;
        }

        int length() {
            return start(scenes.size());
        }

        int start(int scene) {
            int start = 0;
            for (int s = 0; s < scene; s++) {
                start += scenes.get(s);
            }
            return start;
        }

        boolean covers(Appearance a, int time) {
            int line = time - start(a.scene());
            return line >= a.enter() && line < a.exit();
        }

        int onStage(int time) {
            int mask = 0;
            for (Appearance a : appearances) {
                mask |= covers(a, time) ? 1 << a.role() : 0;
            }
            return mask;
        }

        /** The roles on stage, line by line. */
        int[] stage() {
            int[] stage = new int[length()];
            for (int t = 0; t < stage.length; t++) {
                stage[t] = onStage(t);
            }
            return stage;
        }

        static boolean overlap(int[] stage, int p, int q) {
            int both = 1 << p | 1 << q;
            for (int present : stage) {
                if ((present & both) == both) {
                    return true;
                }
            }
            return false;
        }

        /** All pairs (gap, change time) of a change from p to q or from q to p. */
        List<int[]> changes(int p, int q) {
            List<int[]> found = new ArrayList<>();
            for (Appearance a : appearances) {
                for (Appearance b : appearances) {
                    boolean pair = a.role() == p && b.role() == q || a.role() == q && b.role() == p;
                    int gap = start(b.scene()) + b.enter() - start(a.scene()) - a.exit();
                    if (pair && gap >= 0) {
                        found.add(new int[] {gap,
                            roles.get(a.role()).out() + roles.get(b.role()).in()});
                    }
                }
            }
            return found;
        }

        int conflict(int p, int q) {
            return conflict(stage(), p, q, 0);
        }

        int conflict(int[] stage, int p, int q, int faster) {
            if (roles.get(p).voice() != roles.get(q).voice()) {
                return 1;
            }
            if (overlap(stage, p, q)) {
                return 2;
            }
            for (int[] c : changes(p, q)) {
                if (c[0] < Math.max(0, c[1] - faster)) {
                    return 3;
                }
            }
            return 0;
        }

        int slack(int p, int q) {
            if (overlap(stage(), p, q)) {
                return NOT_POSSIBLE;
            }
            return changes(p, q).stream().mapToInt(c -> c[0] - c[1]).min().orElse(NOT_FOUND);
        }

        boolean[][] graph(int faster) {
            int n = roles.size();
            boolean[][] g = new boolean[n][n];
            int[] stage = stage();
            for (int p = 0; p < n; p++) {
                for (int q = 0; q < n; q++) {
                    g[p][q] = p != q && conflict(stage, p, q, faster) != 0;
                }
            }
            return g;
        }

        int settle() {
            boolean[][] g = graph(0);
            int lost = 0;
            for (int r = 0; r < roles.size(); r++) {
                for (int s = 0; s < r; s++) {
                    if (g[r][s] && actors[r] >= 0 && actors[s] == actors[r]) {
                        actors[r] = NOT_FOUND;
                        lost++;
                    }
                }
            }
            return lost;
        }
    }

    /** The first cast of the size, tried in the order of the document, or null. */
    static int[] firstCast(boolean[][] g, int size) {
        int[] actors = new int[g.length];
        return extend(g, size, actors, 0) ? actors : null;
    }

    static boolean extend(boolean[][] g, int size, int[] actors, int role) {
        if (role == g.length) {
            return true;
        }
        for (int a = 0; a < size; a++) {
            boolean free = true;
            for (int r = 0; r < role; r++) {
                free &= !(g[role][r] && actors[r] == a);
            }
            actors[role] = a;
            if (free && extend(g, size, actors, role + 1)) {
                return true;
            }
        }
        return false;
    }

    static int least(boolean[][] g) {
        int size = 1;
        while (firstCast(g, size) == null) {
            size++;
        }
        return size;
    }

    static int clique(boolean[][] g) {
        int best = 0;
        for (int set = 0; set < 1 << g.length; set++) {
            boolean all = true;
            for (int p = 0; p < g.length; p++) {
                for (int q = 0; q < p; q++) {
                    all &= (set >> p & 1) == 0 || (set >> q & 1) == 0 || g[p][q];
                }
            }
            best = all ? Math.max(best, Integer.bitCount(set)) : best;
        }
        return best;
    }

    static int greedy(boolean[][] g) {
        int[] actors = new int[g.length];
        int size = 0;
        for (int r = 0; r < g.length; r++) {
            boolean[] taken = new boolean[9];
            for (int s = 0; s < r; s++) {
                taken[actors[s]] |= g[r][s];
            }
            while (taken[actors[r]]) {
                actors[r]++;
            }
            size = Math.max(size, actors[r] + 1);
        }
        return size;
    }

    /** The model of the whole class. */
    static final class Model {
        State state = new State();
        String text = "";
        Deque<State> past = new ArrayDeque<>();
        int errorPlace;
        int errorReason;

        Model() {
            text = "scene 30;scene 20;scene 40;role low 4 3;role low 2 6;role high 5 5;role low 0 2;"
                    + "role high 3 1;enter 0 0 0 12;enter 1 0 18 30;enter 2 0 5 25;enter 3 1 0 9;"
                    + "enter 0 1 10 20;enter 4 1 3 20;enter 1 2 2 15;enter 3 2 20 40;"
                    + "enter 2 2 30 40;";
            configure();
            text = "";
        }

        static String wordAt(String s) {
            return s.split("[ ;]", 2)[0];
        }

        State read() {
            State s = new State();
            errorPlace = NOT_FOUND;
            errorReason = NOT_FOUND;
            int place = 0;
            while (place < text.length()) {
                String rest = text.substring(place);
                List<Integer> values = new ArrayList<>();
                int reason = wrongForm(rest, values);
                reason = reason == 0 ? wrongValues(s, rest.charAt(0), values) : reason;
                if (reason != 0) {
                    errorPlace = place;
                    errorReason = reason;
                    return null;
                }
                place += rest.indexOf(';') + 1;
            }
            return s;
        }

        static int wrongForm(String rest, List<Integer> values) {
            String kind = wordAt(rest);
            String shape = kind.equals("scene") ? "n" : kind.equals("role") ? "vnn"
                    : kind.equals("enter") ? "nnnn" : null;
            if (shape == null) {
                return 1;
            }
            String left = rest.substring(kind.length());
            for (char c : shape.toCharArray()) {
                if (!left.startsWith(" ")) {
                    return 2;
                }
                String word = wordAt(left.substring(1));
                left = left.substring(1 + word.length());
                if (c == 'v') {
                    int voice = List.of("low", "high", "child").indexOf(word);
                    if (voice < 0) {
                        return 1;
                    }
                    values.add(voice);
                } else if (word.matches("[0-9]{1,3}")) {
                    values.add(Integer.valueOf(word));
                } else {
                    return 2;
                }
            }
            return left.startsWith(";") ? 0 : 2;
        }

        static int wrongValues(State s, char kind, List<Integer> v) {
            if (kind == 's') {
                if (v.get(0) < 1 || v.get(0) > 99) {
                    return 3;
                }
                s.scenes.add(v.get(0));
                return s.scenes.size() > 10 ? 4 : 0;
            }
            if (kind == 'r') {
                if (v.get(1) > 60 || v.get(2) > 60) {
                    return 3;
                }
                s.roles.add(new Role(v.get(0), v.get(1), v.get(2)));
                return s.roles.size() > 8 ? 4 : 0;
            }
            if (!admitted(s, v.get(0), v.get(1), v.get(2), v.get(3))) {
                return 3;
            }
            s.appearances.add(new Appearance(v.get(0), v.get(1), v.get(2), v.get(3)));
            return s.appearances.size() > 20 ? 4 : 0;
        }

        static boolean admitted(State s, int role, int scene, int enter, int exit) {
            return role >= 0 && role < s.roles.size() && scene >= 0 && scene < s.scenes.size()
                    && enter >= 0 && enter < exit && exit <= s.scenes.get(scene);
        }

        int configure() {
            State s = read();
            if (s == null || s.scenes.isEmpty() || s.roles.isEmpty()) {
                return NOT_POSSIBLE;
            }
            state = s;
            past.clear();
            return s.roles.size();
        }

        void remember() {
            past.push(state.copy());
            while (past.size() > 5) {
                past.removeLast();
            }
        }

        boolean isRole(int role) {
            return role >= 0 && role < state.roles.size();
        }

        int append(int c) {
            if (c < 32 || c > 126) {
                return INVALID;
            }
            if (text.length() == 400) {
                return FULL;
            }
            text += (char) c;
            return text.length();
        }

        int clearText() {
            int n = text.length();
            text = "";
            return n;
        }

        int addAppearance(int role, int scene, int enter, int exit) {
            if (!admitted(state, role, scene, enter, exit)) {
                return INVALID;
            }
            if (state.appearances.size() == 20) {
                return FULL;
            }
            remember();
            state.appearances.add(new Appearance(role, scene, enter, exit));
            state.settle();
            return state.appearances.size();
        }

        int removeAppearance(int n) {
            if (n < 0 || n >= state.appearances.size()) {
                return INVALID;
            }
            remember();
            state.appearances.remove(n);
            state.settle();
            return state.appearances.size();
        }

        int setChangeTimes(int role, int out, int in) {
            if (!isRole(role) || out < 0 || out > 60 || in < 0 || in > 60) {
                return INVALID;
            }
            remember();
            state.roles.set(role, new Role(state.roles.get(role).voice(), out, in));
            return state.settle();
        }

        int cast(int role, int actor) {
            if (!isRole(role) || actor < 0 || actor > 7) {
                return INVALID;
            }
            for (int r = 0; r < state.roles.size(); r++) {
                if (r != role && state.actors[r] == actor && state.conflict(r, role) != 0) {
                    return NOT_POSSIBLE;
                }
            }
            remember();
            state.actors[role] = actor;
            return Integer.bitCount(rolesOf(actor));
        }

        int uncast(int role) {
            if (!isRole(role)) {
                return INVALID;
            }
            int actor = state.actors[role];
            if (actor < 0) {
                return NOT_POSSIBLE;
            }
            remember();
            state.actors[role] = NOT_FOUND;
            return actor;
        }

        int adoptFirstCast() {
            remember();
            int size = least(state.graph(0));
            int[] first = firstCast(state.graph(0), size);
            System.arraycopy(first, 0, state.actors, 0, first.length);
            return size;
        }

        int undo() {
            if (past.isEmpty()) {
                return NOT_POSSIBLE;
            }
            state = past.pop();
            return past.size();
        }

        int onStage(int time) {
            return time < 0 || time >= state.length() ? INVALID : state.onStage(time);
        }

        int peak() {
            int most = 0;
            for (int t = 0; t < state.length(); t++) {
                most = Math.max(most, Integer.bitCount(state.onStage(t)));
            }
            return most;
        }

        int rolesInScene(int scene) {
            if (scene < 0 || scene >= state.scenes.size()) {
                return INVALID;
            }
            return state.appearances.stream().filter(a -> a.scene() == scene)
                    .mapToInt(a -> 1 << a.role()).reduce(0, (a, b) -> a | b);
        }

        int conflict(int p, int q) {
            return isRole(p) && isRole(q) && p != q ? state.conflict(p, q) : INVALID;
        }

        int conflictCount() {
            int count = 0;
            for (boolean[] row : state.graph(0)) {
                for (boolean c : row) {
                    count += c ? 1 : 0;
                }
            }
            return count / 2;
        }

        int slack(int p, int q) {
            return isRole(p) && isRole(q) && p != q ? state.slack(p, q) : INVALID;
        }

        int actorOf(int role) {
            return isRole(role) ? state.actors[role] : INVALID;
        }

        int rolesOf(int actor) {
            if (actor < 0 || actor > 7) {
                return INVALID;
            }
            int mask = 0;
            for (int r = 0; r < state.roles.size(); r++) {
                mask |= state.actors[r] == actor ? 1 << r : 0;
            }
            return mask;
        }

        int tightestChange(int actor) {
            int roles = rolesOf(actor);
            if (roles == INVALID) {
                return INVALID;
            }
            int least = Integer.MAX_VALUE;
            for (int p = 0; p < 8; p++) {
                for (int q = 0; q < p; q++) {
                    if ((roles >> p & 1) == 1 && (roles >> q & 1) == 1
                            && state.slack(p, q) != NOT_FOUND) {
                        least = Math.min(least, state.slack(p, q));
                    }
                }
            }
            return least == Integer.MAX_VALUE ? NOT_FOUND : least;
        }

        int firstCastActor(int role) {
            boolean[][] g = state.graph(0);
            return isRole(role) ? firstCast(g, least(g))[role] : INVALID;
        }

        int leastCastIfFaster(int lines) {
            return lines < 0 || lines > 120 ? INVALID : least(state.graph(lines));
        }

        int speedUpFor(int size) {
            if (size < 1 || size > 8) {
                return INVALID;
            }
            for (int lines = 0; lines <= 120; lines++) {
                if (leastCastIfFaster(lines) <= size) {
                    return lines;
                }
            }
            return NOT_FOUND;
        }
    }

    static int wrong = 0;
    static Random random;
    static RoleDoublingPlanner x;
    static Model m;
    static int calls;
    static StringBuilder log;

    static void due(String call, int got, int want) {
        calls++;
        log.append(call).append('=').append(got).append("; ");
        if (got != want) {
            wrong++;
            if (wrong <= 5) {
                System.out.println(call + " answered " + got + ", due is " + want
                        + "\n  after " + log + "\n  text " + m.text);
            }
        }
    }

    static int below(int bound) {
        return random.nextInt(bound);
    }

    /** Mostly a number from 0 to the bound, with the edges more often, sometimes any number. */
    static int number(int bound) {
        switch (below(40)) {
            case 0: return -1;
            case 1: return bound + 1;
            case 2: return random.nextInt();
            case 3: return 0;
            case 4: return bound;
            default: return below(bound + 1);
        }
    }

    static String word(String... words) {
        return words[below(words.length)];
    }

    static String statement(int scenes, int roles, int longest, int slowest, int voices) {
        switch (below(10)) {
            case 0: return "scene " + (1 + below(longest)) + ";";
            case 1: return "role " + List.of("low", "high", "child").get(below(voices)) + " "
                    + below(slowest + 1) + " " + below(slowest + 1) + ";";
            default:
                int enter = below(longest);
                return "enter " + below(roles) + " " + below(scenes) + " " + enter + " "
                        + (enter + 1 + below(longest - enter)) + ";";
        }
    }

    static String playText() {
        int scenes = 1 + below(4);
        int roles = 1 + below(8);
        int longest = 5 + below(94);
        int slowest = word("a", "b").equals("a") ? below(61) : below(12);
        int voices = below(3) == 0 ? 3 : 1;
        StringBuilder b = new StringBuilder();
        for (int s = 0; s < scenes; s++) {
            b.append("scene ").append(longest).append(';');
        }
        for (int r = 0; r < roles; r++) {
            b.append("role ").append(List.of("low", "high", "child").get(below(voices)))
                    .append(' ').append(below(slowest + 1)).append(' ').append(below(slowest + 1))
                    .append(';');
        }
        int more = below(15);
        for (int i = 0; i < more; i++) {
            int enter = below(longest);
            int exit = Math.min(longest, enter + 1 + below(1 + longest / 4));
            b.append("enter ").append(below(roles)).append(' ').append(below(scenes)).append(' ')
                    .append(enter).append(' ').append(exit).append(';');
        }
        return b.substring(0, Math.min(b.length(), 330));
    }

    static String spoil(String text) {
        StringBuilder b = new StringBuilder(text);
        for (int i = below(3); i >= 0 && b.length() > 0; i--) {
            int at = below(b.length());
            switch (below(4)) {
                case 0: b.deleteCharAt(at); break;
                case 1: b.insert(at, word(" ", ";", "0", "9", "x", "role ", "scene 5;", "enter 0 0 0 5;")); break;
                case 2: b.setCharAt(at, word(" ", ";", "0", "9", "x", "/", ":").charAt(0)); break;
                default: b.setLength(at); break;
            }
        }
        return b.toString();
    }

    static void type(String text) {
        for (char c : text.toCharArray()) {
            if (calls < 500) {
                due("append(" + (int) c + ")", x.append(c), m.append(c));
            }
        }
    }

    static void readErrors() {
        m.read();
        due("firstError()", x.firstError(), m.errorPlace);
        due("errorReason()", x.errorReason(), m.errorReason);
    }

    static void edit() {
        int roles = m.state.roles.size();
        int a = number(roles - 1);
        switch (below(8)) {
            case 0: case 1:
                int scene = number(m.state.scenes.size() - 1);
                int longest = scene >= 0 && scene < m.state.scenes.size() ? m.state.scenes.get(scene) : 9;
                int enter = number(longest - 1);
                int exit = below(3) == 0 ? number(longest) : enter + 1 + below(6);
                due("addAppearance(" + a + "," + scene + "," + enter + "," + exit + ")",
                        x.addAppearance(a, scene, enter, exit), m.addAppearance(a, scene, enter, exit));
                break;
            case 2:
                int n = number(Math.max(0, m.state.appearances.size() - 1));
                due("removeAppearance(" + n + ")", x.removeAppearance(n), m.removeAppearance(n));
                break;
            case 3:
                int out = number(60);
                int in = number(60);
                due("setChangeTimes(" + a + "," + out + "," + in + ")",
                        x.setChangeTimes(a, out, in), m.setChangeTimes(a, out, in));
                break;
            case 4: case 5:
                int actor = below(3) == 0 ? number(7) : below(2);
                due("cast(" + a + "," + actor + ")", x.cast(a, actor), m.cast(a, actor));
                break;
            case 6:
                due("uncast(" + a + ")", x.uncast(a), m.uncast(a));
                break;
            default:
                if (below(2) == 0) {
                    due("adoptFirstCast()", x.adoptFirstCast(), m.adoptFirstCast());
                } else {
                    for (int i = below(6); i >= 0; i--) {
                        due("undo()", x.undo(), m.undo());
                    }
                }
                break;
        }
    }

    static void ask() {
        int a = number(m.state.roles.size() - 1);
        int b = number(m.state.roles.size() - 1);
        int n = number(7);
        switch (below(16)) {
            case 0: due("roleCount()", x.roleCount(), m.state.roles.size()); break;
            case 1: due("appearanceCount()", x.appearanceCount(), m.state.appearances.size()); break;
            case 2: due("playLength()", x.playLength(), m.state.length()); break;
            case 3:
                int time = number(m.state.length() - 1);
                due("onStage(" + time + ")", x.onStage(time), m.onStage(time));
                break;
            case 4: due("peak()", x.peak(), m.peak()); break;
            case 5:
                int scene = number(m.state.scenes.size() - 1);
                due("rolesInScene(" + scene + ")", x.rolesInScene(scene), m.rolesInScene(scene));
                break;
            case 6: due("conflict(" + a + "," + b + ")", x.conflict(a, b), m.conflict(a, b)); break;
            case 7: due("conflictCount()", x.conflictCount(), m.conflictCount()); break;
            case 8: due("slack(" + a + "," + b + ")", x.slack(a, b), m.slack(a, b)); break;
            case 9: due("tightestChange(" + n + ")", x.tightestChange(n), m.tightestChange(n)); break;
            case 10: due("cliqueNumber()", x.cliqueNumber(), clique(m.state.graph(0))); break;
            case 11: due("leastCast()", x.leastCast(), least(m.state.graph(0))); break;
            case 12: due("firstCastActor(" + a + ")", x.firstCastActor(a), m.firstCastActor(a)); break;
            case 13: due("greedyCast()", x.greedyCast(), greedy(m.state.graph(0))); break;
            case 14:
                int lines = number(120);
                due("leastCastIfFaster(" + lines + ")", x.leastCastIfFaster(lines), m.leastCastIfFaster(lines));
                break;
            default:
                int size = below(4) == 0 ? number(8) : 1 + below(4);
                due("speedUpFor(" + size + ")", x.speedUpFor(size), m.speedUpFor(size));
                break;
        }
    }

    static void compareCast() {
        for (int r = 0; r < m.state.roles.size(); r++) {
            due("actorOf(" + r + ")", x.actorOf(r), m.actorOf(r));
        }
        int n = number(7);
        due("rolesOf(" + n + ")", x.rolesOf(n), m.rolesOf(n));
        int r = number(7);
        due("actorOf(" + r + ")", x.actorOf(r), m.actorOf(r));
    }

    static void run(int seed) {
        random = new Random(seed);
        x = new RoleDoublingPlanner();
        m = new Model();
        calls = 0;
        log = new StringBuilder();
        if (below(4) != 0) {
            String text = below(8) == 0 ? statement(3, 4, 30, 60, 3) + playText() : playText();
            type(below(4) == 0 ? spoil(text) : text);
            readErrors();
            due("configure()", x.configure(), m.configure());
        }
        while (calls < 490) {
            if (below(3) == 0) {
                edit();
                if (below(4) == 0) {
                    compareCast();
                }
            } else if (below(60) == 0) {
                typeMore();
            } else {
                ask();
            }
        }
    }

    static void typeMore() {
        if (below(3) == 0) {
            due("clearText()", x.clearText(), m.clearText());
        }
        int sign = number(130);
        due("append(" + sign + ")", x.append(sign), m.append(sign));
        readErrors();
        due("configure()", x.configure(), m.configure());
    }

    /** Many spoilt texts, which need no other call than those that read them. */
    static void readTexts(int seed) {
        random = new Random(seed);
        x = new RoleDoublingPlanner();
        m = new Model();
        calls = 0;
        log = new StringBuilder();
        StringBuilder text = new StringBuilder("scene 9;role low 1 1;");
        for (int i = below(4); i >= 0; i--) {
            text.append(statement(2, 2, 12, 70, 3));
        }
        type(spoil(text.toString()));
        readErrors();
        due("configure()", x.configure(), m.configure());
        due("clearText()", x.clearText(), m.clearText());
    }

    public static void main(String[] args) {
        int runs = args.length > 0 ? Integer.parseInt(args[0]) : 400;
        for (int seed = 0; seed < runs; seed++) {
            run(seed);
        }
        for (int seed = 0; seed < 20 * runs; seed++) {
            readTexts(seed);
        }
        System.out.println(wrong == 0 ? "all answers are as due" : wrong + " answers are not as due");
        if (wrong != 0) {
            System.exit(1);
        }
    }
}

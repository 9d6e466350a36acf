/**
 * A planner for doubling roles in a play: who is on stage when, which roles one actor cannot play
 * both, casting by hand, and the least cast. All times are whole numbers of lines.
 */
public final class RoleDoublingPlanner {
    public static final int INVALID_ARGUMENT = -1001;
    public static final int NOT_POSSIBLE = -1002;
    public static final int CAPACITY_EXCEEDED = -1003;
    public static final int NOT_FOUND = -1004;
    public static final int LOW = 0, HIGH = 1, CHILD = 2;
    public static final int NO_CONFLICT = 0, VOICE = 1, OVERLAP = 2, CHANGE = 3;
    public static final int UNKNOWN_WORD = 1, BAD_NUMBER = 2, OUT_OF_RANGE = 3, TOO_MANY = 4;

    private static final int MAX_SCENES = 10;
    private static final int MAX_SCENE_LENGTH = 99;
    private static final int MAX_ROLES = 8;
    private static final int MAX_APPEARANCES = 20;
    private static final int MAX_COSTUME_TIME = 60;
    private static final int MAX_SPEED_UP = 2 * MAX_COSTUME_TIME;
    private static final int ACTORS = 8;
    private static final int NO_ACTOR = -1;
    private static final int MAX_UNDO = 5;
    private static final int MAX_TEXT = 400;
    private static final int FIRST_SIGN = 32;
    private static final int LAST_SIGN = 126;
    private static final int MAX_NUMBERS = 4;
    private static final int MAX_DIGITS = 3;
    private static final int WELL_FORMED = 0;
    private static final int NO_NUMBER = -1;
    private static final int NO_VOICE = -1;
    // Seven halvings leave one of the 121 speed-ups from 0 to 120.
    private static final int HALVINGS = 7;

    private static final String FIRST_SCENES = "scene 30;scene 20;scene 40;";
    private static final String FIRST_ROLES =
            "role low 4 3;role low 2 6;role high 5 5;role low 0 2;role high 3 1;";
    private static final String ENTERS_IN_SCENE_0 = "enter 0 0 0 12;enter 1 0 18 30;enter 2 0 5 25;";
    private static final String ENTERS_IN_SCENE_1 = "enter 3 1 0 9;enter 0 1 10 20;enter 4 1 3 20;";
    private static final String ENTERS_IN_SCENE_2 = "enter 1 2 2 15;enter 3 2 20 40;enter 2 2 30 40;";

    private final PlayText text;
    private final Play stated;
    private final Play play;
    private final Slacks slacks;
    private final Casting casting;
    private final History history;

    public RoleDoublingPlanner() {
        text = new PlayText();
        stated = new Play();
        play = new Play();
        slacks = new Slacks(play);
        casting = new Casting();
        history = new History();
        text.putAll(FIRST_SCENES);
        text.putAll(FIRST_ROLES);
        text.putAll(ENTERS_IN_SCENE_0);
        text.putAll(ENTERS_IN_SCENE_1);
        text.putAll(ENTERS_IN_SCENE_2);
        text.readInto(stated);
        startStatedPlay();
        text.length = 0;
    }

    public int append(int character) {
        if (character < FIRST_SIGN || character > LAST_SIGN) {
            return INVALID_ARGUMENT;
        }
        if (text.length >= MAX_TEXT) {
            return CAPACITY_EXCEEDED;
        }
        text.put((char) character);
        return text.length;
    }

    public int clearText() {
        int before = text.length;
        text.length = 0;
        return before;
    }

    public int firstError() {
        text.readInto(stated);
        return text.reason == WELL_FORMED ? NOT_FOUND : text.statementStart;
    }

    public int errorReason() {
        text.readInto(stated);
        return text.reason == WELL_FORMED ? NOT_FOUND : text.reason;
    }

    public int configure() {
        text.readInto(stated);
        if (text.reason != WELL_FORMED || stated.scenes == 0 || stated.roles == 0) {
            return NOT_POSSIBLE;
        }
        startStatedPlay();
        return play.roles;
    }

    public int addAppearance(int role, int scene, int enter, int exit) {
        if (!play.admits(role, scene, enter, exit)) {
            return INVALID_ARGUMENT;
        }
        if (play.appearances >= MAX_APPEARANCES) {
            return CAPACITY_EXCEEDED;
        }
        history.remember(play);
        play.putAppearance(role, scene, enter, exit);
        slacks.measure();
        freeRivals();
        return play.appearances;
    }

    public int removeAppearance(int appearance) {
        if (appearance < 0 || appearance >= play.appearances) {
            return INVALID_ARGUMENT;
        }
        history.remember(play);
        play.dropAppearance(appearance);
        // No role is freed here: an appearance less never makes a new conflict.
        slacks.measure();
        return play.appearances;
    }

    public int setChangeTimes(int role, int out, int in) {
        if (!play.hasRole(role) || !isCostumeTime(out) || !isCostumeTime(in)) {
            return INVALID_ARGUMENT;
        }
        history.remember(play);
        play.out[role] = out;
        play.in[role] = in;
        slacks.measure();
        return freeRivals();
    }

    public int cast(int role, int actor) {
        if (!play.hasRole(role) || !isActor(actor)) {
            return INVALID_ARGUMENT;
        }
        if (hasRivalOf(actor, role, play.roles)) {
            return NOT_POSSIBLE;
        }
        history.remember(play);
        play.actor[role] = actor;
        return Integer.bitCount(play.rolesWith(actor));
    }

    public int uncast(int role) {
        if (!play.hasRole(role)) {
            return INVALID_ARGUMENT;
        }
        int actor = play.actor[role];
        if (actor == NO_ACTOR) {
            return NOT_POSSIBLE;
        }
        history.remember(play);
        play.actor[role] = NO_ACTOR;
        return actor;
    }

    public int adoptFirstCast() {
        history.remember(play);
        casting.lookAt(slacks, 0);
        int size = casting.findFirstCast();
        for (int role = 0; role < play.roles; role++) {
            play.actor[role] = casting.foundActor(role);
        }
        return size;
    }

    public int undo() {
        if (history.kept == 0) {
            return NOT_POSSIBLE;
        }
        history.bringBack(play);
        slacks.measure();
        return history.kept;
    }

    public int roleCount() {
        return play.roles;
    }

    public int appearanceCount() {
        return play.appearances;
    }

    public int playLength() {
        return play.startOf(play.scenes);
    }

    public int onStage(int time) {
        if (time < 0 || time >= play.startOf(play.scenes)) {
            return INVALID_ARGUMENT;
        }
        return play.rolesAt(time);
    }

    public int peak() {
        int most = 0;
        // More roles can be on stage than before only at a time at which one enters.
        for (int a = 0; a < play.appearances; a++) {
            most = Math.max(most, Integer.bitCount(play.rolesAt(play.enterTime[a])));
        }
        return most;
    }

    public int rolesInScene(int scene) {
        if (!play.hasScene(scene)) {
            return INVALID_ARGUMENT;
        }
        int roles = 0;
        for (int a = 0; a < play.appearances; a++) {
            if (play.appearingIn[a] == scene) {
                roles |= 1 << play.appearing[a];
            }
        }
        return roles;
    }

    public int conflict(int role, int other) {
        if (!areTwoRoles(role, other)) {
            return INVALID_ARGUMENT;
        }
        return slacks.reason(role, other, 0);
    }

    public int conflictCount() {
        int pairs = 0;
        for (int role = 1; role < play.roles; role++) {
            for (int other = 0; other < role; other++) {
                if (slacks.reason(role, other, 0) != NO_CONFLICT) {
                    pairs++;
                }
            }
        }
        return pairs;
    }

    public int slack(int role, int other) {
        if (!areTwoRoles(role, other)) {
            return INVALID_ARGUMENT;
        }
        return slacks.table[role][other];
    }

    public int actorOf(int role) {
        if (!play.hasRole(role)) {
            return INVALID_ARGUMENT;
        }
        int actor = play.actor[role];
        return actor == NO_ACTOR ? NOT_FOUND : actor;
    }

    public int rolesOf(int actor) {
        return isActor(actor) ? play.rolesWith(actor) : INVALID_ARGUMENT;
    }

    public int tightestChange(int actor) {
        if (!isActor(actor)) {
            return INVALID_ARGUMENT;
        }
        int least = NOT_FOUND;
        for (int role = 1; role < play.roles; role++) {
            for (int other = 0; other < role; other++) {
                if (play.actor[role] == actor && play.actor[other] == actor) {
                    least = lesserSlack(least, slacks.table[role][other]);
                }
            }
        }
        return least;
    }

    public int cliqueNumber() {
        casting.lookAt(slacks, 0);
        return casting.largestClique();
    }

    public int leastCast() {
        casting.lookAt(slacks, 0);
        return casting.findFirstCast();
    }

    public int firstCastActor(int role) {
        if (!play.hasRole(role)) {
            return INVALID_ARGUMENT;
        }
        casting.lookAt(slacks, 0);
        casting.findFirstCast();
        return casting.foundActor(role);
    }

    public int greedyCast() {
        casting.lookAt(slacks, 0);
        return casting.greedySize();
    }

    public int leastCastIfFaster(int lines) {
        if (lines < 0 || lines > MAX_SPEED_UP) {
            return INVALID_ARGUMENT;
        }
        casting.lookAt(slacks, lines);
        return casting.findFirstCast();
    }

    public int speedUpFor(int size) {
        if (size < 1 || size > ACTORS) {
            return INVALID_ARGUMENT;
        }
        if (!sizeIsEnough(size, MAX_SPEED_UP)) {
            return NOT_FOUND;
        }
        // Faster changes never make a conflict, so the speed-ups that are enough lie together.
        int low = 0;
        int high = MAX_SPEED_UP;
        for (int step = 0; step < HALVINGS && low < high; step++) {
            int middle = (low + high) / 2;
            if (sizeIsEnough(size, middle)) {
                high = middle;
            } else {
                low = middle + 1;
            }
        }
        return low;
    }

    private void startStatedPlay() {
        play.copyFrom(stated);
        history.kept = 0;
        slacks.measure();
    }

    private boolean areTwoRoles(int role, int other) {
        return play.hasRole(role) && play.hasRole(other) && role != other;
    }

    /** Tells whether the actor has, among the roles below the bound, one that conflicts with the role. */
    private boolean hasRivalOf(int actor, int role, int bound) {
        for (int other = 0; other < bound; other++) {
            if (other != role && play.actor[other] == actor
                    && slacks.reason(role, other, 0) != NO_CONFLICT) {
                return true;
            }
        }
        return false;
    }

    /** Takes the actor from roles that now conflict with a lower role of his, and counts them. */
    private int freeRivals() {
        int freed = 0;
        for (int role = 1; role < play.roles; role++) {
            int actor = play.actor[role];
            if (actor != NO_ACTOR && hasRivalOf(actor, role, role)) {
                play.actor[role] = NO_ACTOR;
                freed++;
            }
        }
        return freed;
    }

    private boolean sizeIsEnough(int size, int lines) {
        casting.lookAt(slacks, lines);
        return casting.findCast(size);
    }

    private static boolean isActor(int actor) {
        return actor >= 0 && actor < ACTORS;
    }

    private static boolean isCostumeTime(int lines) {
        return lines >= 0 && lines <= MAX_COSTUME_TIME;
    }

    /** The lesser of two slacks, either of which may be NOT_FOUND. */
    private static int lesserSlack(int one, int other) {
        if (one == NOT_FOUND) {
            return other;
        }
        return other == NOT_FOUND ? one : Math.min(one, other);
    }

    /** Scenes, roles with their actors, and appearances. */
    private static final class Play {
        int scenes;
        int roles;
        int appearances;
        final int[] sceneLength = new int[MAX_SCENES];
        final int[] voice = new int[MAX_ROLES];
        final int[] out = new int[MAX_ROLES];
        final int[] in = new int[MAX_ROLES];
        final int[] actor = new int[MAX_ROLES];
        final int[] appearing = new int[MAX_APPEARANCES];
        final int[] appearingIn = new int[MAX_APPEARANCES];
        final int[] enterTime = new int[MAX_APPEARANCES];
        final int[] exitTime = new int[MAX_APPEARANCES];

        void makeEmpty() {
            scenes = 0;
            roles = 0;
            appearances = 0;
        }

        void copyFrom(Play other) {
            scenes = other.scenes;
            roles = other.roles;
            appearances = other.appearances;
            System.arraycopy(other.sceneLength, 0, sceneLength, 0, MAX_SCENES);
            System.arraycopy(other.voice, 0, voice, 0, MAX_ROLES);
            System.arraycopy(other.out, 0, out, 0, MAX_ROLES);
            System.arraycopy(other.in, 0, in, 0, MAX_ROLES);
            System.arraycopy(other.actor, 0, actor, 0, MAX_ROLES);
            System.arraycopy(other.appearing, 0, appearing, 0, MAX_APPEARANCES);
            System.arraycopy(other.appearingIn, 0, appearingIn, 0, MAX_APPEARANCES);
            System.arraycopy(other.enterTime, 0, enterTime, 0, MAX_APPEARANCES);
            System.arraycopy(other.exitTime, 0, exitTime, 0, MAX_APPEARANCES);
        }

        boolean hasScene(int scene) {
            return scene >= 0 && scene < scenes;
        }

        boolean hasRole(int role) {
            return role >= 0 && role < roles;
        }

        boolean admits(int role, int scene, int enter, int exit) {
            return hasRole(role) && hasScene(scene)
                    && enter >= 0 && enter < exit && exit <= sceneLength[scene];
        }

        /** The start of a scene; for the number of scenes, the length of the whole play. */
        int startOf(int scene) {
            int start = 0;
            for (int s = 0; s < scene && s < scenes; s++) {
                start += sceneLength[s];
            }
            return start;
        }

        int stateScene(int length) {
            if (length < 1 || length > MAX_SCENE_LENGTH) {
                return OUT_OF_RANGE;
            }
            if (scenes >= MAX_SCENES) {
                return TOO_MANY;
            }
            sceneLength[scenes] = length;
            scenes++;
            return WELL_FORMED;
        }

        int stateRole(int voiceOfRole, int outTime, int inTime) {
            if (!isCostumeTime(outTime) || !isCostumeTime(inTime)) {
                return OUT_OF_RANGE;
            }
            if (roles >= MAX_ROLES) {
                return TOO_MANY;
            }
            voice[roles] = voiceOfRole;
            out[roles] = outTime;
            in[roles] = inTime;
            actor[roles] = NO_ACTOR;
            roles++;
            return WELL_FORMED;
        }

        int stateAppearance(int role, int scene, int enter, int exit) {
            if (!admits(role, scene, enter, exit)) {
                return OUT_OF_RANGE;
            }
            if (appearances >= MAX_APPEARANCES) {
                return TOO_MANY;
            }
            putAppearance(role, scene, enter, exit);
            return WELL_FORMED;
        }

        /** Adds an appearance that is admitted and for which there is room. */
        void putAppearance(int role, int scene, int enter, int exit) {
            int start = startOf(scene);
            appearing[appearances] = role;
            appearingIn[appearances] = scene;
            enterTime[appearances] = start + enter;
            exitTime[appearances] = start + exit;
            appearances++;
        }

        void dropAppearance(int appearance) {
            appearances--;
            for (int a = appearance; a < appearances; a++) {
                appearing[a] = appearing[a + 1];
                appearingIn[a] = appearingIn[a + 1];
                enterTime[a] = enterTime[a + 1];
                exitTime[a] = exitTime[a + 1];
            }
        }

        int rolesAt(int time) {
            int present = 0;
            for (int a = 0; a < appearances; a++) {
                if (enterTime[a] <= time && time < exitTime[a]) {
                    present |= 1 << appearing[a];
                }
            }
            return present;
        }

        int rolesWith(int oneActor) {
            int found = 0;
            for (int role = 0; role < roles; role++) {
                if (actor[role] == oneActor) {
                    found |= 1 << role;
                }
            }
            return found;
        }
    }

    /** The play text, and how it is read from left to right. */
    private static final class PlayText {
        final char[] signs = new char[MAX_TEXT];
        int length;
        /** Where the statement read last starts, and why it is malformed, or WELL_FORMED. */
        int statementStart;
        int reason;
        private int place;
        private int wordStart;
        private final int[] numbers = new int[MAX_NUMBERS];

        void put(char sign) {
            if (length < MAX_TEXT) {
                signs[length] = sign;
                length++;
            }
        }

        void putAll(String statements) {
            for (int i = 0; i < statements.length(); i++) {
                put(statements.charAt(i));
            }
        }

        /** States the play anew, up to the first malformed statement or the end of the text. */
        void readInto(Play stated) {
            stated.makeEmpty();
            place = 0;
            reason = WELL_FORMED;
            // A well-formed statement has signs, so there are never more statements than signs.
            for (int n = 0; n < MAX_TEXT && place < length && reason == WELL_FORMED; n++) {
                statementStart = place;
                reason = readStatement(stated);
            }
        }

        private int readStatement(Play stated) {
            readWord();
            if (wordIs("scene")) {
                return readScene(stated);
            }
            if (wordIs("role")) {
                return readRole(stated);
            }
            if (wordIs("enter")) {
                return readEnter(stated);
            }
            return UNKNOWN_WORD;
        }

        private int readScene(Play stated) {
            if (!readNumbersAndEnd(1)) {
                return BAD_NUMBER;
            }
            return stated.stateScene(numbers[0]);
        }

        private int readRole(Play stated) {
            if (!readSign(' ')) {
                return BAD_NUMBER;
            }
            readWord();
            int voice = wordAsVoice();
            if (voice == NO_VOICE) {
                return UNKNOWN_WORD;
            }
            if (!readNumbersAndEnd(2)) {
                return BAD_NUMBER;
            }
            return stated.stateRole(voice, numbers[0], numbers[1]);
        }

        private int readEnter(Play stated) {
            if (!readNumbersAndEnd(4)) {
                return BAD_NUMBER;
            }
            return stated.stateAppearance(numbers[0], numbers[1], numbers[2], numbers[3]);
        }

        private boolean readNumbersAndEnd(int count) {
            for (int i = 0; i < count && i < MAX_NUMBERS; i++) {
                if (!readSign(' ')) {
                    return false;
                }
                readWord();
                numbers[i] = wordAsNumber();
                if (numbers[i] == NO_NUMBER) {
                    return false;
                }
            }
            return readSign(';');
        }

        private boolean readSign(char sign) {
            if (place >= length || signs[place] != sign) {
                return false;
            }
            place++;
            return true;
        }

        private void readWord() {
            wordStart = place;
            while (place < length && signs[place] != ' ' && signs[place] != ';') {
                place++;
            }
        }

        private boolean wordIs(String word) {
            if (place - wordStart != word.length()) {
                return false;
            }
            for (int i = 0; i < word.length(); i++) {
                if (signs[wordStart + i] != word.charAt(i)) {
                    return false;
                }
            }
            return true;
        }

        private int wordAsVoice() {
            if (wordIs("low")) {
                return LOW;
            }
            if (wordIs("high")) {
                return HIGH;
            }
            return wordIs("child") ? CHILD : NO_VOICE;
        }

        private int wordAsNumber() {
            int digits = place - wordStart;
            if (digits < 1 || digits > MAX_DIGITS) {
                return NO_NUMBER;
            }
            int number = 0;
            for (int i = wordStart; i < place; i++) {
                if (signs[i] < '0' || signs[i] > '9') {
                    return NO_NUMBER;
                }
                number = 10 * number + (signs[i] - '0');
            }
            return number;
        }
    }

    /** For each two roles of a play, their slack or why they have none. */
    private static final class Slacks {
        final Play play;
        /** What the method slack answers; slacks are at least -120, far from the error codes. */
        final int[][] table = new int[MAX_ROLES][MAX_ROLES];

        Slacks(Play play) {
            this.play = play;
        }

        void measure() {
            for (int role = 0; role < MAX_ROLES; role++) {
                for (int other = 0; other < MAX_ROLES; other++) {
                    table[role][other] = NOT_FOUND;
                }
            }
            for (int a = 1; a < play.appearances; a++) {
                for (int b = 0; b < a; b++) {
                    compare(a, b);
                }
            }
        }

        private void compare(int a, int b) {
            int role = play.appearing[a];
            int other = play.appearing[b];
            // An overlap anywhere outweighs all that the other appearances say.
            if (role == other || table[role][other] == NOT_POSSIBLE) {
                return;
            }
            int found = NOT_POSSIBLE;
            if (play.exitTime[a] <= play.enterTime[b]) {
                found = lesserSlack(table[role][other], slackFrom(a, b));
            } else if (play.exitTime[b] <= play.enterTime[a]) {
                found = lesserSlack(table[role][other], slackFrom(b, a));
            }
            table[role][other] = found;
            table[other][role] = found;
        }

        private int slackFrom(int earlier, int later) {
            int changeTime = play.out[play.appearing[earlier]] + play.in[play.appearing[later]];
            return play.enterTime[later] - play.exitTime[earlier] - changeTime;
        }

        /**
         * Why two roles conflict if every change is faster by so many lines. A change time that
         * would fall below 0 needs no care: no gap is below 0, so neither way is there a conflict.
         */
        int reason(int role, int other, int faster) {
            if (play.voice[role] != play.voice[other]) {
                return VOICE;
            }
            int slackOfPair = table[role][other];
            if (slackOfPair == NOT_POSSIBLE) {
                return OVERLAP;
            }
            if (slackOfPair == NOT_FOUND) {
                return NO_CONFLICT;
            }
            return slackOfPair + faster < 0 ? CHANGE : NO_CONFLICT;
        }
    }

    /** The graph of conflicts, with sets of roles as bit masks, and casts and cliques in it. */
    private static final class Casting {
        private int roles;
        private final int[] rivals = new int[MAX_ROLES];
        private final int[] rolesOfActor = new int[ACTORS];

        void lookAt(Slacks slacks, int faster) {
            roles = slacks.play.roles;
            for (int role = 0; role < roles; role++) {
                rivals[role] = 0;
                for (int other = 0; other < role; other++) {
                    if (slacks.reason(role, other, faster) != NO_CONFLICT) {
                        rivals[role] |= 1 << other;
                        rivals[other] |= 1 << role;
                    }
                }
            }
        }

        /** Finds the first cast and answers its size, the least cast. */
        int findFirstCast() {
            for (int size = 1; size < roles; size++) {
                if (findCast(size)) {
                    return size;
                }
            }
            findCast(roles);
            return roles;
        }

        /** Finds the first of the casts with at most so many actors, if there is one. */
        boolean findCast(int size) {
            dismissAll();
            return castFrom(this, 0, 0, Math.min(size, ACTORS));
        }

        int foundActor(int role) {
            for (int actor = 0; actor < ACTORS; actor++) {
                if ((rolesOfActor[actor] & (1 << role)) != 0) {
                    return actor;
                }
            }
            return NO_ACTOR;
        }

        int greedySize() {
            dismissAll();
            int used = 0;
            for (int role = 0; role < roles; role++) {
                int actor = 0;
                while (actor < ACTORS - 1 && !isFree(actor, role)) {
                    actor++;
                }
                rolesOfActor[actor] |= 1 << role;
                used = Math.max(used, actor + 1);
            }
            return used;
        }

        int largestClique() {
            int largest = 0;
            for (int set = 1; set < (1 << roles); set++) {
                if (isClique(set)) {
                    largest = Math.max(largest, Integer.bitCount(set));
                }
            }
            return largest;
        }

        private boolean isClique(int set) {
            for (int role = 0; role < roles; role++) {
                int others = set & ~(1 << role);
                if (others != set && (others & ~rivals[role]) != 0) {
                    return false;
                }
            }
            return true;
        }

        private boolean isFree(int actor, int role) {
            return (rolesOfActor[actor] & rivals[role]) == 0;
        }

        private void dismissAll() {
            for (int actor = 0; actor < ACTORS; actor++) {
                rolesOfActor[actor] = 0;
            }
        }

        /**
         * Casts the roles from the given one on, the lowest actors first. Of the actors without a
         * role only the lowest is tried: the others would do no better, and come later.
         */
        private static boolean castFrom(Casting casting, int role, int used, int size) {
            if (role >= casting.roles || role >= MAX_ROLES) {
                return true;
            }
            for (int actor = 0; actor <= used && actor < size; actor++) {
                if (casting.isFree(actor, role)) {
                    casting.rolesOfActor[actor] |= 1 << role;
                    if (castFrom(casting, role + 1, Math.max(used, actor + 1), size)) {
                        return true;
                    }
                    casting.rolesOfActor[actor] &= ~(1 << role);
                }
            }
            return false;
        }
    }

    /** The plays before the newest edits, the oldest first. */
    private static final class History {
        int kept;
        private final Play[] past = new Play[MAX_UNDO];

        History() {
            for (int i = 0; i < MAX_UNDO; i++) {
                past[i] = new Play();
            }
        }

        void remember(Play play) {
            if (kept >= MAX_UNDO) {
                forgetOldest();
            }
            past[kept].copyFrom(play);
            kept++;
        }

        void bringBack(Play play) {
            if (kept > 0) {
                kept--;
                play.copyFrom(past[kept]);
            }
        }

        private void forgetOldest() {
            Play oldest = past[0];
            for (int i = 1; i < MAX_UNDO; i++) {
                past[i - 1] = past[i];
            }
            past[MAX_UNDO - 1] = oldest;
            kept = MAX_UNDO - 1;
        }
    }
}

import java.lang.reflect.Field;

/** A test of its own for each sentence of the document's description. */
public final class DescriptionSentences {
    /** Two low roles that touch, a high one that overlaps both, and a child without appearances. */
    private static final String SMALL = "scene 8;scene 6;role low 1 2;role low 2 1;role high 0 3;"
            + "role child 0 0;enter 0 0 0 4;enter 1 0 7 8;enter 2 1 2 4;enter 2 0 3 8;";

    /** A ring of five roles of one voice: its cliques have 2 roles, but it takes 3 actors. */
    private static final String RING = "scene 90;" + "role low 0 0;".repeat(5)
            + "enter 0 0 0 2;enter 2 0 1 3;enter 2 0 10 12;enter 4 0 11 13;enter 4 0 20 22;"
            + "enter 1 0 21 23;enter 1 0 30 32;enter 3 0 31 33;enter 3 0 40 42;enter 0 0 41 43;";

    /** 0 meets 3 and 5, 2 meets 1 and 5, 4 meets 1 and 3: 2 actors do, the greedy way takes 3. */
    private static final String CROWN = "scene 90;" + "role low 0 0;".repeat(6)
            + "enter 0 0 0 2;enter 3 0 1 3;enter 0 0 10 12;enter 5 0 11 13;enter 2 0 20 22;"
            + "enter 1 0 21 23;enter 2 0 30 32;enter 5 0 31 33;enter 4 0 40 42;enter 1 0 41 43;"
            + "enter 4 0 50 52;enter 3 0 51 53;";

    private static final String FULL_STAGE = "scene 9;" + "role low 0 0;".repeat(8)
            + "enter 0 0 0 9;enter 1 0 1 9;enter 2 0 2 9;enter 3 0 3 9;"
            + "enter 4 0 4 9;enter 5 0 5 9;enter 6 0 6 9;enter 7 0 7 9;";

    /** A play in 400 signs; its last statement starts at sign 387. */
    private static final String LONGEST_TEXT = "scene 9;role low 0 0;" + "enter 0 0 0 9;".repeat(20)
            + "scene 8;".repeat(9) + "role high 0 0;role low 0 0;";

    private static void holds(String sentence, Sentences.Test test) {
        Sentences.holds(sentence, test);
    }

    private static void malformed(String text, int start, String reason) {
        new Run().type(text).due("firstError()", start).calls("errorReason() = " + reason
                + "; configure() = NOT_POSSIBLE");
    }

    private static void wellFormed(String text) {
        new Run().type(text).calls("firstError() = NOT_FOUND; errorReason() = NOT_FOUND");
    }

    /** Compares two runs that are alike but for one refused call. */
    private static void changesNothing(String play, String edits, String text, String refused) {
        Run with = new Run().play(play).calls(edits);
        Run without = new Run().play(play).calls(edits);
        with.ask("clearText()");
        without.ask("clearText()");
        with.type(text).calls(refused);
        Sentences.due("the state after " + refused, with.allSeen(), without.type(text).allSeen());
    }

    private static void callsOfAnObject() {
        Sentences.namesNoAnswer("A planner for doubling roles in a play: appearances of roles on stage, conflicts "
                + "between roles by voice, by overlap and by quick changes, casting by hand, and the least cast, found "
                + "by exact graph coloring.");
        holds("An object is used for at most 512 calls after it has been made; what later calls answer is free.", x -> {
            while (x.callsMade() < 504) {
                x.calls("adoptFirstCast() = 4; removeAppearance(0) = 8; append(97) = 1; undo() = 1; clearText() = 1;"
                        + "undo() = 0; cast(0, 7) = 1; undo() = 0; leastCast() = 4");
            }
            x.calls("cast(0, 3) = 1; actorOf(0) = 3; leastCast() = 4; append(97) = 1; undo() = 0;"
                    + "cast(0, 5) = 1; undo() = 0; cast(4, 7) = 1");
            Sentences.due("the calls made", x.callsMade(), 512);
        });
    }

    private static void errorCodes() {
        Sentences.namesNoAnswer("All times are whole numbers of lines.");
        holds("When several error codes apply to a call, the first one named at that method's return "
                + "value is returned.", x -> {
            x.type("a".repeat(400)).calls("append(31) = INVALID_ARGUMENT; append(127) = INVALID_ARGUMENT;"
                    + "append(97) = CAPACITY_EXCEEDED");
            new Run().play("scene 9;role low 0 0;" + "enter 0 0 0 9;".repeat(20)).calls(
                    "addAppearance(1, 0, 0, 9) = INVALID_ARGUMENT;"
                    + "addAppearance(0, 1, 0, 9) = INVALID_ARGUMENT;"
                    + "addAppearance(0, 0, -1, 9) = INVALID_ARGUMENT;"
                    + "addAppearance(0, 0, 9, 9) = INVALID_ARGUMENT;"
                    + "addAppearance(0, 0, 0, 10) = INVALID_ARGUMENT;"
                    + "addAppearance(0, 0, 0, 9) = CAPACITY_EXCEEDED");
            new Run().play(SMALL).calls("slack(2, 2) = INVALID_ARGUMENT; slack(3, 3) = INVALID_ARGUMENT;"
                    + "slack(3, 4) = INVALID_ARGUMENT; uncast(4) = INVALID_ARGUMENT;"
                    + "uncast(-1) = INVALID_ARGUMENT; actorOf(4) = INVALID_ARGUMENT;"
                    + "actorOf(-1) = INVALID_ARGUMENT; tightestChange(8) = INVALID_ARGUMENT;"
                    + "tightestChange(-1) = INVALID_ARGUMENT; speedUpFor(0) = INVALID_ARGUMENT");
        });
        holds("A call that returns an error code changes nothing.", x -> refusedCalls());
    }

    private static void refusedCalls() {
        String edits = "cast(0, 5) = 1; cast(2, 6) = 1; setChangeTimes(0, 2, 1) = 0";
        String[] refused = {"append(31) = INVALID_ARGUMENT", "append(127) = INVALID_ARGUMENT",
            "configure() = NOT_POSSIBLE", "addAppearance(-1, 0, 0, 1) = INVALID_ARGUMENT",
            "addAppearance(4, 0, 0, 1) = INVALID_ARGUMENT", "addAppearance(0, -1, 0, 1) = INVALID_ARGUMENT",
            "addAppearance(0, 2, 0, 1) = INVALID_ARGUMENT", "addAppearance(0, 0, -1, 1) = INVALID_ARGUMENT",
            "addAppearance(0, 0, 2, 2) = INVALID_ARGUMENT", "addAppearance(0, 0, 0, 9) = INVALID_ARGUMENT",
            "removeAppearance(-1) = INVALID_ARGUMENT", "removeAppearance(4) = INVALID_ARGUMENT",
            "setChangeTimes(-1, 9, 9) = INVALID_ARGUMENT", "setChangeTimes(4, 9, 9) = INVALID_ARGUMENT",
            "setChangeTimes(0, 61, 9) = INVALID_ARGUMENT", "setChangeTimes(0, -1, 9) = INVALID_ARGUMENT",
            "setChangeTimes(0, 9, 61) = INVALID_ARGUMENT", "setChangeTimes(0, 9, -1) = INVALID_ARGUMENT",
            "cast(-1, 0) = INVALID_ARGUMENT", "cast(4, 0) = INVALID_ARGUMENT", "cast(0, 8) = INVALID_ARGUMENT",
            "cast(0, -1) = INVALID_ARGUMENT", "cast(1, 6) = NOT_POSSIBLE", "cast(0, 6) = NOT_POSSIBLE",
            "uncast(-1) = INVALID_ARGUMENT", "uncast(4) = INVALID_ARGUMENT", "uncast(1) = NOT_POSSIBLE",
            "onStage(-1) = INVALID_ARGUMENT", "onStage(14) = INVALID_ARGUMENT",
            "rolesInScene(-1) = INVALID_ARGUMENT", "rolesInScene(2) = INVALID_ARGUMENT",
            "conflict(0, 0) = INVALID_ARGUMENT", "conflict(0, 4) = INVALID_ARGUMENT",
            "slack(0, 0) = INVALID_ARGUMENT", "slack(4, 0) = INVALID_ARGUMENT", "slack(0, 2) = NOT_POSSIBLE",
            "slack(0, 3) = NOT_FOUND", "actorOf(4) = INVALID_ARGUMENT", "actorOf(1) = NOT_FOUND",
            "rolesOf(-1) = INVALID_ARGUMENT", "rolesOf(8) = INVALID_ARGUMENT",
            "tightestChange(8) = INVALID_ARGUMENT", "tightestChange(5) = NOT_FOUND",
            "firstCastActor(-1) = INVALID_ARGUMENT", "firstCastActor(4) = INVALID_ARGUMENT",
            "leastCastIfFaster(-1) = INVALID_ARGUMENT", "leastCastIfFaster(121) = INVALID_ARGUMENT",
            "speedUpFor(0) = INVALID_ARGUMENT", "speedUpFor(9) = INVALID_ARGUMENT",
            "speedUpFor(2) = NOT_FOUND"};
        for (String call : refused) {
            changesNothing(SMALL, edits, "scene 9;role low 0 0;role", call);
        }
        changesNothing(SMALL, edits, "", "configure() = NOT_POSSIBLE");
        changesNothing(SMALL, edits, "scene 9;scene 8;", "configure() = NOT_POSSIBLE");
        changesNothing(SMALL, edits, "role low 1 1;", "configure() = NOT_POSSIBLE");
        changesNothing(SMALL, edits, "scene 3;role low 1 1;", "firstError() = NOT_FOUND");
        changesNothing(SMALL, edits, "scene 3;role low 1 1;", "errorReason() = NOT_FOUND");
        changesNothing(SMALL, "", "scene 3;role low 1 1;", "undo() = NOT_POSSIBLE");
        String crowded = "scene 9;role low 0 0;" + "enter 0 0 0 9;".repeat(20);
        new Run().play(crowded).calls("addAppearance(0, 0, 0, 1) = CAPACITY_EXCEEDED;"
                + "undo() = NOT_POSSIBLE; appearanceCount() = 20; removeAppearance(19) = 19");
        new Run().type(LONGEST_TEXT).calls("append(97) = CAPACITY_EXCEEDED; firstError() = NOT_FOUND;"
                + "append(97) = CAPACITY_EXCEEDED; configure() = 3; clearText() = 400");
    }

    private static void scenes() {
        holds("A play has 1 to 10 scenes, numbered from 0 in their order, each with a length of 1 to 99 "
                + "lines.", x -> {
            x.type("role low 0 0;").calls("configure() = NOT_POSSIBLE");
            new Run().play("scene 1;role low 0 0;").calls("playLength() = 1; rolesInScene(0) = 0;"
                    + "rolesInScene(-1) = INVALID_ARGUMENT; rolesInScene(1) = INVALID_ARGUMENT");
            new Run().play("scene 99;".repeat(10) + "role low 0 0;enter 0 9 98 99;").calls(
                    "playLength() = 990; rolesInScene(9) = 1; rolesInScene(8) = 0;"
                    + "rolesInScene(10) = INVALID_ARGUMENT; onStage(989) = 1");
            malformed("scene 1;".repeat(11), 80, "TOO_MANY");
            malformed("scene 0;", 0, "OUT_OF_RANGE");
            malformed("scene 100;", 0, "OUT_OF_RANGE");
            new Run().play("scene 3;scene 7;scene 5;role low 0 0;").calls(
                    "addAppearance(0, 0, 0, 4) = INVALID_ARGUMENT; addAppearance(0, 0, 0, 3) = 1;"
                    + "addAppearance(0, 1, 0, 8) = INVALID_ARGUMENT; addAppearance(0, 1, 0, 7) = 2;"
                    + "addAppearance(0, 2, 0, 6) = INVALID_ARGUMENT; addAppearance(0, 2, 0, 5) = 3");
        });
        holds("Time 0 is the start of scene 0; a scene starts at the sum of the lengths of the scenes "
                + "before it.", x -> x.play("scene 3;scene 7;scene 1;scene 2;"
                + "role low 0 0;role low 0 0;role low 0 0;role low 0 0;"
                + "enter 0 0 0 1;enter 1 1 0 1;enter 2 2 0 1;enter 3 3 0 1;").calls(
                "onStage(0) = 1; onStage(1) = 0; onStage(2) = 0; onStage(3) = 2; onStage(4) = 0;"
                + "onStage(9) = 0; onStage(10) = 4; onStage(11) = 8; onStage(12) = 0;"
                + "onStage(13) = INVALID_ARGUMENT; onStage(-1) = INVALID_ARGUMENT"));
    }

    private static void roles() {
        holds("A play has 1 to 8 roles, numbered from 0.", x -> {
            x.type("scene 9;").calls("configure() = NOT_POSSIBLE");
            new Run().type("scene 9;role low 0 0;").calls("configure() = 1; actorOf(0) = NOT_FOUND;"
                    + "actorOf(1) = INVALID_ARGUMENT; actorOf(-1) = INVALID_ARGUMENT");
            new Run().type("scene 9;" + "role low 0 0;".repeat(7) + "role high 0 0;").calls(
                    "configure() = 8; actorOf(7) = NOT_FOUND; actorOf(8) = INVALID_ARGUMENT;"
                    + "conflict(6, 7) = VOICE; conflict(0, 6) = NO_CONFLICT;"
                    + "addAppearance(7, 0, 0, 1) = 1; onStage(0) = 128");
            malformed("scene 9;" + "role low 0 0;".repeat(9), 8 + 8 * 13, "TOO_MANY");
        });
        holds("A role has a voice (LOW, HIGH or CHILD), a time to get out of its costume and a time to get "
                + "into it (0 to 60 lines each).", x -> {
            x.play("scene 9;role low 0 0;role high 0 0;role child 0 0;role low 0 0;role high 0 0;"
                    + "role child 0 0;").calls("conflict(0, 1) = VOICE; conflict(0, 2) = VOICE;"
                    + "conflict(1, 2) = VOICE; conflict(0, 3) = NO_CONFLICT; conflict(1, 4) = NO_CONFLICT;"
                    + "conflict(2, 5) = NO_CONFLICT");
            wellFormed("role low 0 0;role low 60 60;role low 0 60;role low 60 0;");
            malformed("role low 61 0;", 0, "OUT_OF_RANGE");
            malformed("role low 0 61;", 0, "OUT_OF_RANGE");
            new Run().calls("setChangeTimes(0, 0, 60) = 0; setChangeTimes(0, 60, 0) = 0;"
                    + "setChangeTimes(0, 61, 0) = INVALID_ARGUMENT; setChangeTimes(0, 0, 61) = INVALID_ARGUMENT;"
                    + "setChangeTimes(0, -1, 0) = INVALID_ARGUMENT; setChangeTimes(0, 0, -1) = INVALID_ARGUMENT");
            new Run().play("scene 9;role low 60 7;role low 5 59;enter 0 0 0 1;enter 1 0 1 2;")
                    .calls("slack(0, 1) = -119; addAppearance(0, 0, 2, 3) = 3; removeAppearance(0) = 2;"
                    + "slack(0, 1) = -12");
        });
    }

    private static void appearances() {
        holds("A play has at most 20 appearances, numbered from 0.", x -> {
            x.play("scene 9;role low 0 0;role low 0 0;enter 1 0 0 9;" + "enter 0 0 0 9;".repeat(18)).calls(
                    "addAppearance(0, 0, 0, 9) = 20; addAppearance(0, 0, 0, 9) = CAPACITY_EXCEEDED;"
                    + "removeAppearance(20) = INVALID_ARGUMENT; removeAppearance(-1) = INVALID_ARGUMENT;"
                    + "onStage(0) = 3; removeAppearance(0) = 19; onStage(0) = 1; removeAppearance(18) = 18");
            String twenty = "scene 9;role low 0 0;" + "enter 0 0 0 9;".repeat(20);
            wellFormed(twenty);
            malformed(twenty + "enter 0 0 0 9;", twenty.length(), "TOO_MANY");
        });
        holds("An appearance has a role, a scene, and the lines of the scene at which the role enters and "
                + "exits, with enter at least 0, less than exit, and exit at most the length of the scene.", x -> {
            String before = "scene 5;scene 8;role low 0 0;";
            x.play(before).calls("addAppearance(0, 1, -1, 8) = INVALID_ARGUMENT;"
                    + "addAppearance(0, 1, 8, 8) = INVALID_ARGUMENT; addAppearance(0, 1, 3, 3) = INVALID_ARGUMENT;"
                    + "addAppearance(0, 1, 4, 3) = INVALID_ARGUMENT; addAppearance(0, 1, 0, 9) = INVALID_ARGUMENT;"
                    + "addAppearance(0, 0, 0, 6) = INVALID_ARGUMENT; addAppearance(0, 1, 0, 8) = 1;"
                    + "addAppearance(0, 1, 7, 8) = 2; addAppearance(0, 1, 0, 1) = 3; addAppearance(0, 0, 0, 5) = 4");
            wellFormed(before + "enter 0 1 0 8;enter 0 1 7 8;enter 0 1 0 1;enter 0 0 0 5;");
            malformed(before + "enter 0 1 8 8;", before.length(), "OUT_OF_RANGE");
            malformed(before + "enter 0 1 4 3;", before.length(), "OUT_OF_RANGE");
            malformed(before + "enter 0 1 0 9;", before.length(), "OUT_OF_RANGE");
            malformed(before + "enter 0 0 0 6;", before.length(), "OUT_OF_RANGE");
        });
        holds("It covers the times from its enter time (the start of the scene plus enter) up to, but not "
                + "including, its exit time (the start of the scene plus exit).", x ->
                x.play("scene 10;scene 9;role low 0 0;role low 0 0;enter 0 1 3 6;enter 1 0 9 10;").calls(
                "onStage(12) = 0; onStage(13) = 1; onStage(14) = 1; onStage(15) = 1; onStage(16) = 0;"
                + "onStage(8) = 0; onStage(9) = 2; onStage(10) = 0"));
        holds("Appearances of one role may overlap.", x -> x.play("scene 9;role low 9 9;role low 0 0;"
                + "enter 0 0 0 6;enter 0 0 4 9;enter 0 0 4 9;").calls("appearanceCount() = 3;"
                + "addAppearance(0, 0, 0, 9) = 4; onStage(5) = 1; peak() = 1; conflictCount() = 0;"
                + "cast(0, 0) = 1; addAppearance(0, 0, 1, 2) = 5; actorOf(0) = 0; removeAppearance(3) = 4;"
                + "onStage(8) = 1; removeAppearance(2) = 3; onStage(8) = 1; removeAppearance(1) = 2;"
                + "onStage(8) = 0; onStage(5) = 1"));
    }

    private static void conflicts() {
        holds("The change time from a role p to a different role q is the time to get out of the costume of "
                + "p plus the time to get into the costume of q.", x -> {
            x.play("scene 90;role low 10 1;role low 2 30;enter 0 0 0 20;enter 1 0 60 61;").calls(
                    "slack(0, 1) = 0; slack(1, 0) = 0; addAppearance(0, 0, 63, 64) = 3; slack(0, 1) = -1;"
                    + "setChangeTimes(1, 2, 31) = 0; removeAppearance(2) = 2; slack(0, 1) = -1");
            new Run().play("scene 9;role low 0 60;role low 60 0;enter 0 0 0 4;enter 1 0 4 9;").calls(
                    "slack(0, 1) = 0; conflict(0, 1) = NO_CONFLICT; setChangeTimes(0, 60, 0) = 0;"
                    + "setChangeTimes(1, 0, 60) = 0; slack(0, 1) = -120; conflict(0, 1) = CHANGE");
        });
        holds("Two different roles conflict for the first of these reasons that applies:", x -> {
            x.play("scene 20;role low 9 9;role high 9 9;role low 9 9;"
                    + "enter 0 0 0 5;enter 1 0 4 6;enter 2 0 9 10;").calls(
                    "conflict(0, 1) = VOICE; conflict(1, 0) = VOICE; conflict(1, 2) = VOICE;"
                    + "conflict(0, 2) = CHANGE; addAppearance(2, 0, 4, 5) = 4; conflict(0, 2) = OVERLAP;"
                    + "conflict(2, 0) = OVERLAP; addAppearance(2, 0, 6, 7) = 5; conflict(0, 2) = OVERLAP;"
                    + "conflict(0, 0) = INVALID_ARGUMENT");
        });
        holds("VOICE    they have different voices (also if they have no appearances)", x ->
                x.play("scene 9;role low 0 0;role high 0 0;role child 0 0;role child 0 0;").calls(
                "conflict(0, 1) = VOICE; conflict(1, 2) = VOICE; conflict(2, 0) = VOICE;"
                + "conflict(2, 3) = NO_CONFLICT; addAppearance(0, 0, 0, 1) = 1; conflict(0, 1) = VOICE;"
                + "addAppearance(1, 0, 8, 9) = 2; conflict(0, 1) = VOICE; conflictCount() = 5"));
        holds("OVERLAP  an appearance of the one and an appearance of the other cover a common time", x -> {
            x.play("scene 20;role low 0 0;role low 0 0;enter 0 0 5 10;").calls(
                    "addAppearance(1, 0, 10, 11) = 2; conflict(0, 1) = NO_CONFLICT;"
                    + "addAppearance(1, 0, 4, 5) = 3; conflict(0, 1) = NO_CONFLICT;"
                    + "addAppearance(1, 0, 9, 11) = 4; conflict(0, 1) = OVERLAP; undo() = 2;"
                    + "conflict(0, 1) = NO_CONFLICT; addAppearance(1, 0, 4, 6) = 4; conflict(1, 0) = OVERLAP;"
                    + "undo() = 2; addAppearance(1, 0, 7, 8) = 4; conflict(0, 1) = OVERLAP;"
                    + "undo() = 2; addAppearance(1, 0, 0, 20) = 4; conflict(1, 0) = OVERLAP;"
                    + "undo() = 2; addAppearance(1, 0, 5, 10) = 4; conflict(0, 1) = OVERLAP;"
                    + "addAppearance(1, 0, 18, 19) = 5; conflict(0, 1) = OVERLAP");
            new Run().play("scene 5;scene 5;role low 0 0;role low 0 0;enter 0 0 0 5;enter 1 1 0 5;").calls(
                    "conflict(0, 1) = NO_CONFLICT; addAppearance(0, 1, 4, 5) = 3; conflict(0, 1) = OVERLAP");
        });
        holds("CHANGE   an appearance of one role p exits at a time t, an appearance of the other role q "
                + "enters at a time u that is not less than t, and u - t is less than the change time from p "
                + "to q", x -> {
            x.play("scene 50;role low 0 0;role low 0 0;enter 0 0 0 10;enter 1 0 10 11;").calls(
                    "conflict(0, 1) = NO_CONFLICT; setChangeTimes(0, 1, 0) = 0; conflict(0, 1) = CHANGE;"
                    + "setChangeTimes(0, 0, 0) = 0; setChangeTimes(1, 0, 1) = 0; conflict(1, 0) = CHANGE;"
                    + "setChangeTimes(1, 60, 0) = 0; setChangeTimes(0, 0, 60) = 0; conflict(0, 1) = NO_CONFLICT");
            new Run().play("scene 50;role low 1 0;role low 0 0;enter 1 0 10 11;enter 0 0 0 10;").calls(
                    "conflict(0, 1) = CHANGE; setChangeTimes(0, 0, 0) = 0; conflict(0, 1) = NO_CONFLICT");
            new Run().play("scene 50;role low 3 0;role low 0 4;enter 1 0 17 18;enter 0 0 0 10;").calls(
                    "conflict(0, 1) = NO_CONFLICT; setChangeTimes(0, 4, 0) = 0; conflict(0, 1) = CHANGE;"
                    + "undo() = 0; setChangeTimes(1, 0, 5) = 0; conflict(0, 1) = CHANGE; undo() = 0;"
                    + "addAppearance(0, 0, 18, 19) = 3; conflict(0, 1) = NO_CONFLICT;"
                    + "setChangeTimes(1, 1, 4) = 0; conflict(1, 0) = CHANGE");
        });
        holds("The slack of two roles that do not overlap is the least value of (u - t) - (change time from p "
                + "to q), over all pairs of an appearance of a role p of the two that exits at a time t and an "
                + "appearance of the other role q that enters at a time u not less than t; it may be negative.",
                x -> {
            x.play("scene 90;role low 5 1;role low 2 3;enter 0 0 0 10;enter 1 0 40 50;").calls(
                    "slack(0, 1) = 22; addAppearance(0, 0, 70, 71) = 3; slack(0, 1) = 17;"
                    + "addAppearance(1, 0, 85, 90) = 4; slack(1, 0) = 6; addAppearance(0, 0, 20, 32) = 5;"
                    + "slack(0, 1) = 0; addAppearance(0, 0, 33, 39) = 6; slack(0, 1) = -7;"
                    + "addAppearance(0, 0, 49, 51) = 7; slack(0, 1) = NOT_POSSIBLE");
            new Run().play("scene 99;".repeat(10) + "role low 0 0;role low 0 0;enter 0 0 0 1;enter 1 9 98 99;")
                    .calls("slack(0, 1) = 988; addAppearance(0, 9, 97, 98) = 3; slack(0, 1) = 0;"
                    + "setChangeTimes(0, 60, 0) = 0; setChangeTimes(1, 0, 60) = 0; slack(0, 1) = -120");
        });
    }

    private static void casting() {
        holds("There are actors 0 to 7.", x -> {
            for (int actor = 0; actor < 8; actor++) {
                x.due("cast(0, " + actor + ")", 1).due("actorOf(0)", actor).due("rolesOf(" + actor + ")", 1);
            }
            x.calls("cast(0, 8) = INVALID_ARGUMENT; cast(0, -1) = INVALID_ARGUMENT; actorOf(0) = 7;"
                    + "rolesOf(8) = INVALID_ARGUMENT; rolesOf(-1) = INVALID_ARGUMENT");
        });
        holds("Each role is cast with one actor or with none.", x -> x.calls("actorOf(0) = NOT_FOUND;"
                + "cast(0, 3) = 1; actorOf(0) = 3; cast(0, 0) = 1; actorOf(0) = 0; rolesOf(3) = 0;"
                + "rolesOf(0) = 1; uncast(0) = 0; actorOf(0) = NOT_FOUND; rolesOf(0) = 0;"
                + "uncast(0) = NOT_POSSIBLE"));
        holds("Two roles that conflict are never cast with the same actor; a role is cast only if this is "
                + "kept.", x -> {
            x.play("scene 20;role low 9 9;role high 9 9;role low 9 9;role low 9 9;role low 0 0;"
                    + "enter 0 0 0 5;enter 2 0 4 6;enter 3 0 9 10;enter 4 0 19 20;").calls(
                    "cast(0, 1) = 1; cast(1, 1) = NOT_POSSIBLE; cast(2, 1) = NOT_POSSIBLE;"
                    + "cast(3, 1) = NOT_POSSIBLE; cast(4, 1) = 2; cast(3, 2) = 1; cast(0, 2) = NOT_POSSIBLE;"
                    + "cast(2, 2) = NOT_POSSIBLE; rolesOf(1) = 17; rolesOf(2) = 8; cast(3, 1) = NOT_POSSIBLE;"
                    + "actorOf(3) = 2; cast(4, 2) = 2; rolesOf(1) = 1");
        });
        holds("When an edit other than casting lets roles of one actor conflict, some of them lose their actor: "
                + "the roles are looked at in the order of rising numbers, and a role loses its actor if it "
                + "conflicts with a role of a smaller number that still has the same actor.", x -> {
            String row = "scene 90;" + "role low 0 0;".repeat(5)
                    + "enter 0 0 0 10;enter 1 0 20 30;enter 2 0 40 50;enter 3 0 60 70;enter 4 0 80 90;";
            String cast = "cast(0, 6) = 1; cast(1, 6) = 2; cast(2, 6) = 3; cast(3, 6) = 4; cast(4, 6) = 5;";
            // 1 conflicts with 0 and goes, so that 2, which conflicts only with 1, stays.
            x.play(row).calls(cast + "addAppearance(1, 0, 5, 45) = 6; rolesOf(6) = 29;"
                    + "addAppearance(4, 0, 0, 1) = 7; rolesOf(6) = 13");
            // The role of the edit stays if its number is the smaller one.
            new Run().play(row).calls(cast + "addAppearance(0, 0, 15, 65) = 6; rolesOf(6) = 17;"
                    + "actorOf(0) = 6; undo() = 4; rolesOf(6) = 31");
            new Run().play(row).calls(cast + "setChangeTimes(2, 11, 11) = 1; rolesOf(6) = 27");
            new Run().play(row).calls(cast + "setChangeTimes(0, 60, 60) = 3; rolesOf(6) = 17");
            new Run().play(row).calls(cast + "setChangeTimes(1, 11, 11) = 1; rolesOf(6) = 29");
            // Roles of other actors, and roles of none, keep what they have.
            new Run().play(row).calls("cast(0, 6) = 1; cast(1, 5) = 1; cast(2, 6) = 2;"
                    + "setChangeTimes(1, 60, 60) = 0; addAppearance(3, 0, 0, 90) = 6; rolesOf(6) = 5;"
                    + "rolesOf(5) = 2; removeAppearance(0) = 5; rolesOf(6) = 5");
        });
    }

    private static void leastCasts() {
        holds("A cast of size k is a way to give each role one of the actors 0 to k - 1 so that no two roles "
                + "that conflict have the same actor.", x -> {
            for (String play : new String[] {RING, CROWN, FULL_STAGE, SMALL, "scene 1;role child 9 9;"}) {
                castIsOfItsSize(new Run().play(play));
            }
            castIsOfItsSize(x);
        });
        holds("The least cast is the smallest k for which there is a cast of size k.", x -> {
            new Run().play("scene 1;role low 0 0;").calls("leastCast() = 1");
            new Run().play("scene 1;" + "role low 0 0;".repeat(8)).calls("leastCast() = 1");
            new Run().play("scene 1;role low 0 0;role high 0 0;").calls("leastCast() = 2");
            new Run().play(RING).calls("leastCast() = 3");
            new Run().play(CROWN).calls("leastCast() = 2");
            new Run().play(FULL_STAGE).calls("leastCast() = 8; removeAppearance(7) = 7; leastCast() = 7");
        });
        holds("The first cast is, among all casts of that size, the one in which role 0 has the lowest actor, "
                + "among these the one in which role 1 has the lowest actor, and so on.", x -> {
            x.calls("firstCastActor(0) = 0; firstCastActor(1) = 1; firstCastActor(2) = 2; firstCastActor(3) = 3;"
                    + "firstCastActor(4) = 2");
            new Run().play("scene 1;" + "role low 0 0;".repeat(8)).calls("firstCastActor(0) = 0;"
                    + "firstCastActor(7) = 0");
            new Run().play(RING).calls("firstCastActor(0) = 0; firstCastActor(1) = 0; firstCastActor(2) = 1;"
                    + "firstCastActor(3) = 1; firstCastActor(4) = 2");
            // Actor 0 is the lowest for role 1 alone, but then no cast of size 2 is left.
            new Run().play(CROWN).calls("firstCastActor(0) = 0; firstCastActor(1) = 1; firstCastActor(2) = 0;"
                    + "firstCastActor(3) = 1; firstCastActor(4) = 0; firstCastActor(5) = 1");
            new Run().play(FULL_STAGE).calls("firstCastActor(0) = 0; firstCastActor(6) = 6; firstCastActor(7) = 7");
        });
        holds("A clique is a set of roles in which each two conflict.", x -> {
            x.calls("cliqueNumber() = 4");
            new Run().play("scene 1;role low 0 0;").calls("cliqueNumber() = 1");
            new Run().play("scene 1;role low 0 0;role high 0 0;role low 0 0;role child 0 0;").calls(
                    "cliqueNumber() = 3");
            new Run().play(RING).calls("cliqueNumber() = 2");
            new Run().play(FULL_STAGE).calls("cliqueNumber() = 8");
        });
    }

    private static void castIsOfItsSize(Run x) {
        int size = x.ask("leastCast()");
        int roles = x.ask("roleCount()");
        for (int role = 0; role < roles; role++) {
            int actor = x.ask("firstCastActor(" + role + ")");
            Sentences.due("actor " + actor + " is one of " + size, actor >= 0 && actor < size, true);
            for (int other = 0; other < role; other++) {
                boolean same = x.ask("firstCastActor(" + other + ")") == actor;
                boolean rivals = x.ask("conflict(" + role + ", " + other + ")") != 0;
                Sentences.due("roles " + role + " and " + other + " conflict and share an actor",
                        same && rivals, false);
            }
        }
    }

    private static void playText() {
        holds("The play text has at most 400 characters.", x -> {
            x.type(LONGEST_TEXT).calls("append(120) = CAPACITY_EXCEEDED; append(32) = CAPACITY_EXCEEDED;"
                    + "firstError() = NOT_FOUND; configure() = 3; conflict(1, 2) = VOICE;"
                    + "clearText() = 400; append(120) = 1");
            // The semicolon that is still missing would be the 401st sign.
            new Run().type(LONGEST_TEXT.substring(0, 399)).calls("append(32) = 400;"
                    + "append(59) = CAPACITY_EXCEEDED; firstError() = 387; errorReason() = BAD_NUMBER");
        });
        holds("It is a sequence of statements.", x -> {
            wellFormed("");
            wellFormed("scene 1;");
            wellFormed("role low 0 0;scene 1;enter 0 0 0 1;role low 0 0;scene 2;enter 1 1 0 2;");
            x.type("role low 0 0;scene 1;").calls("configure() = 1");
            malformed("scene 1;role low 0 0;enter 0 0 0 1;scene", 35, "BAD_NUMBER");
        });
        holds("A statement consists of words separated by single blanks and is followed by a semicolon, without "
                + "a blank before or behind the semicolon.", x -> {
            wellFormed("scene 1;role low 0 0;");
            malformed("scene  1;", 0, "BAD_NUMBER");
            malformed("role  low 0 0;", 0, "UNKNOWN_WORD");
            malformed("role low  0 0;", 0, "BAD_NUMBER");
            malformed("role low 0  0;", 0, "BAD_NUMBER");
            malformed("scene 1 ;", 0, "BAD_NUMBER");
            malformed("role low 0 0 ;", 0, "BAD_NUMBER");
            malformed("scene 1; role low 0 0;", 8, "UNKNOWN_WORD");
            malformed("scene 1; ", 8, "UNKNOWN_WORD");
            malformed("scene 1", 0, "BAD_NUMBER");
            malformed("scene 1;scene 1", 8, "BAD_NUMBER");
            malformed("scene 1 role low 0 0;", 0, "BAD_NUMBER");
            malformed("scene 1;;", 8, "UNKNOWN_WORD");
            malformed("scene 1;;scene 1;", 8, "UNKNOWN_WORD");
            malformed(";scene 1;", 0, "UNKNOWN_WORD");
            malformed(" scene 1;", 0, "UNKNOWN_WORD");
        });
        holds("A word is the longest sequence of characters other than blanks and semicolons that starts at its "
                + "place; it is empty if a blank, a semicolon or the end of the text stands there.", x -> {
            malformed("scene1 1;", 0, "UNKNOWN_WORD");
            malformed("scene,1;", 0, "UNKNOWN_WORD");
            malformed("scenes 1;", 0, "UNKNOWN_WORD");
            malformed("scen 1;", 0, "UNKNOWN_WORD");
            malformed("role low: 1 1;", 0, "UNKNOWN_WORD");
            malformed("scene 1.;", 0, "BAD_NUMBER");
            malformed("scene 1~;", 0, "BAD_NUMBER");
            malformed(" ", 0, "UNKNOWN_WORD");
            malformed(";", 0, "UNKNOWN_WORD");
            malformed("role ;", 0, "UNKNOWN_WORD");
            malformed("role ", 0, "UNKNOWN_WORD");
            malformed("role  ", 0, "UNKNOWN_WORD");
            malformed("scene ;", 0, "BAD_NUMBER");
            malformed("scene ", 0, "BAD_NUMBER");
            malformed("scene  ", 0, "BAD_NUMBER");
            // The end of the text counts, not the signs that stood behind it once.
            x.type("scene 12;").calls("clearText() = 9").type("scene 12").calls("errorReason() = BAD_NUMBER;"
                    + "clearText() = 8").type("scene ").calls("errorReason() = BAD_NUMBER; clearText() = 6")
                    .type("scen").calls("errorReason() = UNKNOWN_WORD");
        });
        holds("A number is a word of one to three decimal digits; leading zeros are allowed.", x -> {
            wellFormed("scene 1;scene 10;scene 099;scene 09;scene 001;role low 0 00;role low 000 060;");
            wellFormed("scene 9;role low 0 0;enter 0 00 000 009;");
            for (String word : new String[] {"", "0001", "0000", "1000", "a", "1a", "a1", "1:", "1/", ":", "/", "+1",
                "-1", "1.0", "one", "12345678901"}) {
                malformed("scene " + word + ";", 0, "BAD_NUMBER");
            }
            x.play("scene 012;scene 3;role low 007 0;role low 0 01;enter 0 0 000 005;enter 1 01 0 3;").calls(
                    "playLength() = 15; onStage(4) = 1; onStage(5) = 0; onStage(12) = 2; slack(0, 1) = -1");
        });
    }

    private static void statements() {
        holds("scene LENGTH;                the next scene", x -> {
            x.play("scene 4;scene 99;role low 0 0;scene 1;enter 0 2 0 1;").calls("playLength() = 104;"
                    + "onStage(103) = 1; onStage(102) = 0; rolesInScene(2) = 1; rolesInScene(3) = INVALID_ARGUMENT");
            malformed("scene;", 0, "BAD_NUMBER");
            malformed("scene 1 1;", 0, "BAD_NUMBER");
            malformed("scene 0;", 0, "OUT_OF_RANGE");
            malformed("scene 100;", 0, "OUT_OF_RANGE");
        });
        holds("role VOICE OUT IN;           the next role; VOICE is one of the words low, high, child; OUT and "
                + "IN are the times to get out of and into the costume", x -> {
            x.play("scene 9;role low 7 20;role high 1 1;role low 30 4;role child 0 0;role high 0 0;"
                    + "enter 0 0 0 1;enter 2 0 1 2;").calls("roleCount() = 5; slack(0, 2) = -11;"
                    + "conflict(1, 4) = NO_CONFLICT; conflict(3, 4) = VOICE; conflict(0, 3) = VOICE;"
                    + "conflict(0, 1) = VOICE; conflict(0, 2) = CHANGE");
            for (String voice : new String[] {"", "LOW", "Low", "lo", "lowe", "hig", "highs", "chil", "children",
                "0", "1"}) {
                malformed("role " + voice + " 1 1;", 0, "UNKNOWN_WORD");
            }
            malformed("role low 1;", 0, "BAD_NUMBER");
            malformed("role low 1 1 1;", 0, "BAD_NUMBER");
            malformed("role low;", 0, "BAD_NUMBER");
            malformed("role 1 1;", 0, "UNKNOWN_WORD");
        });
        holds("enter ROLE SCENE ENTER EXIT; an appearance of a role and a scene that are stated before it", x -> {
            x.play("scene 5;scene 9;role low 0 0;role low 0 0;role low 0 0;enter 2 1 3 4;").calls(
                    "appearanceCount() = 1; rolesInScene(1) = 4; rolesInScene(0) = 0; onStage(7) = 0;"
                    + "onStage(8) = 4; onStage(9) = 0");
            malformed("enter 0 0 0 1;scene 5;role low 0 0;", 0, "OUT_OF_RANGE");
            malformed("scene 5;enter 0 0 0 1;role low 0 0;", 8, "OUT_OF_RANGE");
            malformed("role low 0 0;enter 0 0 0 1;scene 5;", 13, "OUT_OF_RANGE");
            malformed("scene 5;role low 0 0;enter 1 0 0 1;role low 0 0;", 21, "OUT_OF_RANGE");
            malformed("scene 5;role low 0 0;enter 0 1 0 1;scene 5;", 21, "OUT_OF_RANGE");
            malformed("scene 5;role low 0 0;enter 0 0 0;", 21, "BAD_NUMBER");
            malformed("scene 5;role low 0 0;enter 0 0 0 1 1;", 21, "BAD_NUMBER");
        });
    }

    private static void reading() {
        holds("A statement is read from left to right: its first word, then for each further word one blank and "
                + "the word, then the semicolon.", x -> {
            malformed("rol bass x", 0, "UNKNOWN_WORD");
            malformed("role bass x y z", 0, "UNKNOWN_WORD");
            malformed("role;bass", 0, "BAD_NUMBER");
            malformed("role", 0, "BAD_NUMBER");
            malformed("role low 1 1", 0, "BAD_NUMBER");
            malformed("scene", 0, "BAD_NUMBER");
            malformed("enter", 0, "BAD_NUMBER");
            malformed("enter 0 0;0 1;", 0, "BAD_NUMBER");
            malformed("enter 0 0 0 1 ", 0, "BAD_NUMBER");
        });
        holds("The reading ends with UNKNOWN_WORD if the first word is none of scene, role and enter or the VOICE "
                + "is none of the three words, and with BAD_NUMBER if a blank or the semicolon is not where it is "
                + "expected or a word that must be a number is none, whichever comes first from left to right.", x -> {
            malformed("exit 0 0 0 1;", 0, "UNKNOWN_WORD");
            malformed("Scene 1;", 0, "UNKNOWN_WORD");
            malformed("1;", 0, "UNKNOWN_WORD");
            malformed("role bass 1 1;", 0, "UNKNOWN_WORD");
            malformed("role bass", 0, "UNKNOWN_WORD");
            malformed("role low1 1;", 0, "UNKNOWN_WORD");
            malformed("role;low 1 1;", 0, "BAD_NUMBER");
            malformed("role low;1 1;", 0, "BAD_NUMBER");
            malformed("role low x 1;", 0, "BAD_NUMBER");
            malformed("role low 1 x;", 0, "BAD_NUMBER");
            malformed("role low low 1 1;", 0, "BAD_NUMBER");
            malformed("scene x;", 0, "BAD_NUMBER");
            malformed("scene 1 bad;", 0, "BAD_NUMBER");
            malformed("scene 1", 0, "BAD_NUMBER");
            malformed("enter x 0 0 1;", 0, "BAD_NUMBER");
            malformed("enter 0 x 0 1;", 0, "BAD_NUMBER");
            malformed("enter 0 0 x 1;", 0, "BAD_NUMBER");
            malformed("enter 0 0 0 x;", 0, "BAD_NUMBER");
        });
        holds("Only a statement that is read completely is then checked for OUT_OF_RANGE (a number is out of its "
                + "range, the role or the scene is not stated before, ENTER is not less than EXIT, or EXIT is "
                + "greater than the length of the scene) and after that for TOO_MANY (there would be more than 10 "
                + "scenes, 8 roles or 20 appearances).", x -> completeStatements());
        holds("A statement is malformed if one of these reasons applies.", x -> {
            String before = "role low 0 0;" + "scene 1;".repeat(9);
            malformed(before + "scenery 1;", 85, "UNKNOWN_WORD");
            malformed(before + "scene 1x;", 85, "BAD_NUMBER");
            malformed(before + "scene 100;", 85, "OUT_OF_RANGE");
            malformed(before + "scene 1;scene 1;", 93, "TOO_MANY");
            wellFormed(before + "scene 1;");
        });
    }

    private static void completeStatements() {
        malformed("scene 100", 0, "BAD_NUMBER");
        malformed("scene 100 ;", 0, "BAD_NUMBER");
        malformed("role low 61 x;", 0, "BAD_NUMBER");
        malformed("enter 0 0 5 4", 0, "BAD_NUMBER");
        String play = "scene 9;scene 7;role low 0 0;role low 0 0;role low 0 0;";
        int start = play.length();
        wellFormed(play + "enter 2 1 6 7;enter 0 0 8 9;scene 99;scene 1;role child 60 0;role child 0 60;");
        malformed(play + "scene 0;", start, "OUT_OF_RANGE");
        malformed(play + "scene 100;", start, "OUT_OF_RANGE");
        malformed(play + "role low 61 0;", start, "OUT_OF_RANGE");
        malformed(play + "role low 0 61;", start, "OUT_OF_RANGE");
        malformed(play + "enter 3 1 6 7;", start, "OUT_OF_RANGE");
        malformed(play + "enter 2 2 6 7;", start, "OUT_OF_RANGE");
        malformed(play + "enter 2 1 7 7;", start, "OUT_OF_RANGE");
        malformed(play + "enter 2 1 7 6;", start, "OUT_OF_RANGE");
        malformed(play + "enter 2 1 6 8;", start, "OUT_OF_RANGE");
        malformed(play + "enter 999 999 999 999;", start, "OUT_OF_RANGE");
        String scenes = "scene 9;".repeat(10);
        malformed(scenes + "scene 9;", 80, "TOO_MANY");
        malformed(scenes + "scene 0;", 80, "OUT_OF_RANGE");
        malformed(scenes + "scene 9", 80, "BAD_NUMBER");
        String roles = "role low 0 0;".repeat(8);
        malformed(roles + "role low 0 0;", 104, "TOO_MANY");
        malformed(roles + "role low 0 61;", 104, "OUT_OF_RANGE");
        malformed(roles + "role bass 0 0;", 104, "UNKNOWN_WORD");
        String enters = "scene 9;role low 0 0;" + "enter 0 0 0 9;".repeat(20);
        malformed(enters + "enter 0 0 0 9;", 301, "TOO_MANY");
        malformed(enters + "enter 0 0 0 10;", 301, "OUT_OF_RANGE");
        malformed(enters + "enter 0 0 0;", 301, "BAD_NUMBER");
        // A full stage leaves room for scenes and roles.
        wellFormed(enters + "scene 9;role low 0 0;");
    }

    private static void undoing() {
        holds("Every successful call of addAppearance, removeAppearance, setChangeTimes, cast, uncast and "
                + "adoptFirstCast is an edit, also if it leaves everything as it was.", x -> {
            for (String edit : new String[] {"addAppearance(0, 0, 0, 12) = 10", "removeAppearance(8) = 8",
                "setChangeTimes(0, 9, 9) = 0", "cast(0, 0) = 1", "adoptFirstCast() = 4"}) {
                new Run().calls(edit + "; undo() = 0; undo() = NOT_POSSIBLE");
            }
            x.calls("cast(0, 3) = 1; cast(0, 3) = 1; undo() = 1; actorOf(0) = 3; undo() = 0;"
                    + "actorOf(0) = NOT_FOUND; undo() = NOT_POSSIBLE");
            new Run().calls("cast(0, 3) = 1; uncast(0) = 3; undo() = 1; actorOf(0) = 3; undo() = 0");
            new Run().calls("setChangeTimes(0, 4, 3) = 0; undo() = 0; undo() = NOT_POSSIBLE");
            new Run().calls("adoptFirstCast() = 4; adoptFirstCast() = 4; undo() = 1; actorOf(4) = 2;"
                    + "undo() = 0; actorOf(4) = NOT_FOUND");
            // Calls that are refused, that ask, or that change the text are no edits.
            new Run().calls("cast(0, 8) = INVALID_ARGUMENT; addAppearance(5, 0, 0, 1) = INVALID_ARGUMENT;"
                    + "removeAppearance(9) = INVALID_ARGUMENT; setChangeTimes(5, 0, 0) = INVALID_ARGUMENT;"
                    + "uncast(0) = NOT_POSSIBLE; undo() = NOT_POSSIBLE; append(97) = 1; firstError() = 0;"
                    + "clearText() = 1; leastCast() = 4; leastCastIfFaster(3) = 3; speedUpFor(3) = 2;"
                    + "undo() = NOT_POSSIBLE; cast(0, 0) = 1; cast(2, 0) = NOT_POSSIBLE; undo() = 0");
        });
        holds("The newest 5 edits can be undone, the newest first.", x -> {
            x.calls("cast(0, 0) = 1; cast(0, 1) = 1; cast(0, 2) = 1; cast(0, 3) = 1; cast(0, 4) = 1;"
                    + "undo() = 4; actorOf(0) = 3; undo() = 3; actorOf(0) = 2; undo() = 2; actorOf(0) = 1;"
                    + "undo() = 1; actorOf(0) = 0; undo() = 0; actorOf(0) = NOT_FOUND; undo() = NOT_POSSIBLE");
            new Run().calls("cast(0, 0) = 1; cast(0, 1) = 1; cast(0, 2) = 1; cast(0, 3) = 1; cast(0, 4) = 1;"
                    + "cast(0, 5) = 1; cast(0, 6) = 1; undo() = 4; actorOf(0) = 5; undo() = 3; undo() = 2;"
                    + "undo() = 1; actorOf(0) = 2; undo() = 0; actorOf(0) = 1; undo() = NOT_POSSIBLE;"
                    + "actorOf(0) = 1");
            // What was undone is gone, and there is room for five edits again.
            new Run().calls("cast(0, 0) = 1; cast(0, 1) = 1; undo() = 1; cast(0, 2) = 1; cast(0, 3) = 1;"
                    + "cast(0, 4) = 1; cast(0, 5) = 1; cast(0, 6) = 1; undo() = 4; undo() = 3; undo() = 2;"
                    + "undo() = 1; actorOf(0) = 2; undo() = 0; actorOf(0) = 0; undo() = NOT_POSSIBLE");
        });
        holds("After configure nothing can be undone.", x -> x.calls("cast(0, 0) = 1; cast(1, 1) = 1").play(
                "scene 9;role low 0 0;role low 0 0;").calls("undo() = NOT_POSSIBLE; roleCount() = 2; cast(1, 4) = 1;"
                + "undo() = 0; undo() = NOT_POSSIBLE; cast(1, 4) = 1; configure() = 2; undo() = NOT_POSSIBLE"));
        holds("The play text is not affected.", x -> x.type("scene 9;").calls("cast(0, 0) = 1; append(120) = 9;"
                + "firstError() = 8; undo() = 0; firstError() = 8; append(120) = 10; adoptFirstCast() = 4;"
                + "clearText() = 10; undo() = 0; firstError() = NOT_FOUND; clearText() = 0"));
    }

    private static void constants() {
        Sentences.namesNoAnswer("The constants:");
        constant("- `INVALID_ARGUMENT = -1001`: An argument is out of its range.",
                "actorOf(5) = INVALID_ARGUMENT");
        constant("- `NOT_POSSIBLE = -1002`: The call is not possible in the present state.",
                "undo() = NOT_POSSIBLE");
        constant("- `CAPACITY_EXCEEDED = -1003`: A fixed limit would be exceeded.",
                twentyAnd("CAPACITY_EXCEEDED"));
        constant("- `NOT_FOUND = -1004`: There is no such thing.", "actorOf(0) = NOT_FOUND");
        constant("- `LOW = 0, HIGH = 1, CHILD = 2`: Voices.", "conflict(0, 2) = VOICE");
        constant("- `NO_CONFLICT = 0, VOICE = 1, OVERLAP = 2, CHANGE = 3`: Reasons of conflicts; NO_CONFLICT if "
                + "there is none.", "conflict(2, 4) = 0; conflict(0, 2) = 1; conflict(0, 1) = 3;"
                + "addAppearance(0, 0, 20, 21) = 10; conflict(0, 1) = 2");
        constant("- `UNKNOWN_WORD = 1, BAD_NUMBER = 2, OUT_OF_RANGE = 3, TOO_MANY = 4`: Reasons of malformed "
                + "statements.", "append(97) = 1; errorReason() = 1");
        Sentences.namesNoAnswer("The constructor and the methods follow, a promise each: the signature, then what "
                + "it does.");
    }

    /** Appearances up to the 20th, and then the answer for one more. */
    private static String twentyAnd(String answer) {
        StringBuilder calls = new StringBuilder();
        for (int n = 10; n <= 20; n++) {
            calls.append("addAppearance(0, 0, 0, 1) = ").append(n).append(';');
        }
        return calls.append("addAppearance(0, 0, 0, 1) = ").append(answer).toString();
    }

    /** Compares the constants that a sentence names with those of the class, and makes calls. */
    private static void constant(String sentence, String calls) {
        holds(sentence, x -> {
            String named = sentence.substring(sentence.indexOf('`') + 1, sentence.lastIndexOf('`'));
            for (String one : named.split(", ")) {
                String[] sides = one.split(" = ");
                Sentences.due(sides[0], constantOfClass(sides[0]), Integer.valueOf(sides[1]));
            }
            x.calls(calls);
        });
    }

    private static Integer constantOfClass(String name) {
        try {
            Field field = RoleDoublingPlanner.class.getField(name);
            return field.getInt(null);
        } catch (ReflectiveOperationException e) {
            return null;
        }
    }

    public static void main(String[] args) {
        Sentences.choose(args);
        Sentences.under("What it is");
        callsOfAnObject();
        Sentences.under("Description");
        errorCodes();
        scenes();
        roles();
        appearances();
        conflicts();
        casting();
        leastCasts();
        playText();
        statements();
        reading();
        undoing();
        constants();
        Sentences.examples("Description");
        Sentences.end();
    }
}

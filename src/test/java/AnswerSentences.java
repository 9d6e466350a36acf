/** A test of its own for each sentence of promises 14 to 31: what can be asked about a play. */
public final class AnswerSentences {
    private static final String ONE_ROLE = "scene 1;role low 0 0;";

    private static final String EIGHT_ROLES = "scene 9;" + "role low 0 0;".repeat(8);

    private static final String FULL_STAGE = EIGHT_ROLES
            + "enter 0 0 0 9;enter 1 0 1 9;enter 2 0 2 9;enter 3 0 3 9;"
            + "enter 4 0 4 9;enter 5 0 5 9;enter 6 0 6 9;enter 7 0 7 9;";

    private static final String TWENTY_ENTERS = "scene 9;role low 0 0;" + "enter 0 0 0 9;".repeat(20);

    /** A ring of five roles of one voice: its cliques have 2 roles, but it takes 3 actors. */
    private static final String RING = "scene 90;" + "role low 0 0;".repeat(5)
            + "enter 0 0 0 2;enter 2 0 1 3;enter 2 0 10 12;enter 4 0 11 13;enter 4 0 20 22;"
            + "enter 1 0 21 23;enter 1 0 30 32;enter 3 0 31 33;enter 3 0 40 42;enter 0 0 41 43;";

    /** 0 meets 3 and 5, 2 meets 1 and 5, 4 meets 1 and 3: 2 actors do, the greedy way takes 3. */
    private static final String CROWN = "scene 90;" + "role low 0 0;".repeat(6)
            + "enter 0 0 0 2;enter 3 0 1 3;enter 0 0 10 12;enter 5 0 11 13;enter 2 0 20 22;"
            + "enter 1 0 21 23;enter 2 0 30 32;enter 5 0 31 33;enter 4 0 40 42;enter 1 0 41 43;"
            + "enter 4 0 50 52;enter 3 0 51 53;";

    /** Two roles that touch, with the longest change between them. */
    private static final String LONGEST_CHANGE = "scene 9;role low 60 0;role low 0 60;"
            + "enter 0 0 0 4;enter 1 0 4 9;";

    private static void holds(String sentence, Sentences.Test test) {
        Sentences.holds(sentence, test);
    }

    private static void counts() {
        Sentences.under("Promise 14: roleCount");
        holds("Returns the number of roles.", x -> x.calls("roleCount() = 5").play(ONE_ROLE).calls("roleCount() = 1")
                .play(EIGHT_ROLES).calls("roleCount() = 8; clearText() = 112; configure() = NOT_POSSIBLE;"
                + "roleCount() = 8"));
        Sentences.under("Promise 15: appearanceCount");
        holds("Returns the number of appearances.", x -> x.calls("appearanceCount() = 9; removeAppearance(0) = 8;"
                + "appearanceCount() = 8; undo() = 0; appearanceCount() = 9").play(ONE_ROLE).calls("appearanceCount() = 0;"
                + "addAppearance(0, 0, 0, 1) = 1; appearanceCount() = 1").play(TWENTY_ENTERS).calls(
                "appearanceCount() = 20; addAppearance(0, 0, 0, 1) = CAPACITY_EXCEEDED; appearanceCount() = 20"));
        Sentences.under("Promise 16: playLength");
        holds("Returns the length of the whole play, the sum of the lengths of all scenes.", x -> x.calls(
                "playLength() = 90").play(ONE_ROLE).calls("playLength() = 1").play("scene 99;".repeat(10) + "role low 0 0;")
                .calls("playLength() = 990").play("scene 1;scene 2;scene 4;role low 0 0;").calls("playLength() = 7"));
    }

    private static void onStage() {
        Sentences.under("Promise 17: onStage");
        holds("Returns the roles that are on stage at a time.", x -> x.calls("onStage(0) = 1; onStage(4) = 1;"
                + "onStage(5) = 5; onStage(11) = 5; onStage(12) = 4; onStage(49) = 17; onStage(50) = 0; onStage(89) = 12"));
        holds("- `time`: 0 to the length of the play minus 1", x -> {
            x.calls("onStage(0) = 1; onStage(89) = 12; onStage(90) = INVALID_ARGUMENT; onStage(-1) = INVALID_ARGUMENT");
            new Run().play(ONE_ROLE).calls("onStage(0) = 0; onStage(1) = INVALID_ARGUMENT; onStage(-1) = INVALID_ARGUMENT");
            new Run().play("scene 99;".repeat(10) + "role low 0 0;enter 0 9 98 99;").calls(
                    "onStage(989) = 1; onStage(988) = 0; onStage(990) = INVALID_ARGUMENT");
        });
        holds("Returns the roles of which an appearance covers the time, as a bit mask (bit r for role r)", x -> {
            x.play(FULL_STAGE).calls("onStage(0) = 1; onStage(1) = 3; onStage(6) = 127; onStage(7) = 255; onStage(8) = 255;"
                    + "removeAppearance(0) = 7; onStage(8) = 254; removeAppearance(6) = 6; onStage(8) = 126;"
                    + "addAppearance(1, 0, 0, 9) = 7; onStage(8) = 126; onStage(0) = 2");
            new Run().play(EIGHT_ROLES).calls("onStage(0) = 0; onStage(8) = 0; addAppearance(7, 0, 3, 4) = 1; onStage(2) = 0;"
                    + "onStage(3) = 128; onStage(4) = 0");
        });
        holds("INVALID_ARGUMENT if time is out of range", x -> x.calls("onStage(-1) = INVALID_ARGUMENT;"
                + "onStage(90) = INVALID_ARGUMENT; onStage(MIN) = INVALID_ARGUMENT; onStage(MAX) = INVALID_ARGUMENT;"
                + "onStage(989) = INVALID_ARGUMENT"));
    }

    private static void peak() {
        Sentences.under("Promise 18: peak");
        holds("Returns the greatest number of roles that are on stage at one time", x -> {
            x.calls("peak() = 2; addAppearance(0, 2, 39, 40) = 10; peak() = 3; undo() = 0; addAppearance(3, 0, 5, 6) = 10;"
                    + "peak() = 3; undo() = 0; peak() = 2");
            new Run().play(FULL_STAGE).calls("peak() = 8; removeAppearance(0) = 7; peak() = 7");
            new Run().play(TWENTY_ENTERS).calls("peak() = 1");
            // Roles that only touch are not on stage together.
            new Run().play("scene 5;scene 5;role low 0 0;role low 0 0;enter 1 1 0 5;enter 0 0 0 5;").calls("peak() = 1;"
                    + "addAppearance(0, 1, 0, 1) = 3; peak() = 2");
            new Run().play("scene 9;role low 0 0;role low 0 0;enter 0 0 4 9;enter 1 0 3 5;").calls("peak() = 2");
            new Run().play("scene 9;role low 0 0;role low 0 0;enter 0 0 0 1;").calls("peak() = 1");
        });
        holds("0 if there are no appearances", x -> {
            x.play(EIGHT_ROLES).calls("peak() = 0; addAppearance(0, 0, 0, 1) = 1; peak() = 1; removeAppearance(0) = 0;"
                    + "peak() = 0");
        });
    }

    private static void rolesInScene() {
        Sentences.under("Promise 19: rolesInScene");
        holds("Returns the roles that appear in a scene.", x -> x.calls("rolesInScene(0) = 7; rolesInScene(1) = 25;"
                + "rolesInScene(2) = 14; removeAppearance(1) = 8; rolesInScene(0) = 5; rolesInScene(2) = 14"));
        holds("- `scene`: number of an existing scene", x -> x.calls("rolesInScene(0) = 7; rolesInScene(2) = 14;"
                + "rolesInScene(3) = INVALID_ARGUMENT; rolesInScene(-1) = INVALID_ARGUMENT").play(
                "scene 1;".repeat(10) + "role low 0 0;enter 0 9 0 1;").calls("rolesInScene(9) = 1; rolesInScene(0) = 0;"
                + "rolesInScene(10) = INVALID_ARGUMENT"));
        holds("Returns the roles with an appearance in the scene, as a bit mask", x -> {
            x.play(FULL_STAGE).calls("rolesInScene(0) = 255; removeAppearance(7) = 7; rolesInScene(0) = 127");
            new Run().play("scene 1;scene 1;role low 0 0;role low 0 0;enter 1 0 0 1;enter 1 0 0 1;").calls(
                    "rolesInScene(0) = 2; rolesInScene(1) = 0; removeAppearance(0) = 1; rolesInScene(0) = 2;"
                    + "removeAppearance(0) = 0; rolesInScene(0) = 0");
        });
        holds("INVALID_ARGUMENT if there is no such scene", x -> x.calls("rolesInScene(-1) = INVALID_ARGUMENT;"
                + "rolesInScene(3) = INVALID_ARGUMENT; rolesInScene(9) = INVALID_ARGUMENT;"
                + "rolesInScene(MIN) = INVALID_ARGUMENT; rolesInScene(MAX) = INVALID_ARGUMENT"));
    }

    private static void conflict() {
        Sentences.under("Promise 20: conflict");
        holds("Tells whether two roles conflict, and why.", x -> x.calls("conflict(0, 1) = CHANGE; conflict(1, 0) = CHANGE;"
                + "conflict(0, 2) = VOICE; conflict(2, 4) = NO_CONFLICT; conflict(4, 2) = NO_CONFLICT;"
                + "addAppearance(0, 0, 18, 19) = 10; conflict(1, 0) = OVERLAP; undo() = 0; conflict(1, 0) = CHANGE"));
        holds("- `role`: number of an existing role", x -> x.calls("conflict(0, 4) = VOICE; conflict(4, 0) = VOICE;"
                + "conflict(5, 0) = INVALID_ARGUMENT; conflict(-1, 0) = INVALID_ARGUMENT").play(EIGHT_ROLES).calls(
                "conflict(7, 0) = NO_CONFLICT; conflict(8, 0) = INVALID_ARGUMENT"));
        holds("- `other`: number of a different existing role", x -> x.calls("conflict(0, 1) = CHANGE;"
                + "conflict(1, 0) = CHANGE; conflict(0, 5) = INVALID_ARGUMENT; conflict(0, -1) = INVALID_ARGUMENT;"
                + "conflict(0, 0) = INVALID_ARGUMENT; conflict(4, 4) = INVALID_ARGUMENT").play(EIGHT_ROLES).calls(
                "conflict(0, 7) = NO_CONFLICT; conflict(0, 8) = INVALID_ARGUMENT"));
        holds("Returns NO_CONFLICT, VOICE, OVERLAP or CHANGE", x -> x.play("scene 50;role low 4 3;role low 2 6;"
                + "role high 0 0;role low 0 0;enter 0 0 10 20;enter 1 0 30 40;enter 3 0 19 25;").calls(
                "conflict(0, 1) = 0; conflict(0, 2) = 1; conflict(0, 3) = 2; conflict(1, 3) = 3;"
                + "setChangeTimes(0, 5, 3) = 0; conflict(0, 1) = 3; setChangeTimes(1, 2, 5) = 0; conflict(1, 0) = 0"));
        holds("INVALID_ARGUMENT if there is no such role or both are the same", x -> x.calls(
                "conflict(5, 0) = INVALID_ARGUMENT; conflict(0, 5) = INVALID_ARGUMENT; conflict(-1, 0) = INVALID_ARGUMENT;"
                + "conflict(0, -1) = INVALID_ARGUMENT; conflict(MIN, 0) = INVALID_ARGUMENT;"
                + "conflict(0, MIN) = INVALID_ARGUMENT; conflict(MAX, 0) = INVALID_ARGUMENT;"
                + "conflict(0, MAX) = INVALID_ARGUMENT; conflict(5, 5) = INVALID_ARGUMENT; conflict(2, 2) = INVALID_ARGUMENT")
                .play(ONE_ROLE).calls("conflict(0, 0) = INVALID_ARGUMENT; conflict(0, 1) = INVALID_ARGUMENT"));
        Sentences.under("Promise 21: conflictCount");
        holds("Returns the number of pairs of roles that conflict.", x -> {
            x.calls("conflictCount() = 9; setChangeTimes(0, 0, 0) = 0; conflictCount() = 8");
            new Run().play(ONE_ROLE).calls("conflictCount() = 0");
            new Run().play(EIGHT_ROLES).calls("conflictCount() = 0");
            new Run().play(FULL_STAGE).calls("conflictCount() = 28");
            new Run().play("scene 1;role low 0 0;role high 0 0;").calls("conflictCount() = 1");
            new Run().play(RING).calls("conflictCount() = 5");
        });
    }

    private static void slack() {
        Sentences.under("Promise 22: slack");
        holds("Returns the slack of two roles, whatever their voices.", x -> x.calls("slack(0, 1) = -8; slack(1, 4) = -7;"
                + "slack(4, 1) = -7; slack(2, 4) = 2; conflict(1, 4) = VOICE").play(
                "scene 9;role low 0 0;role child 0 0;enter 0 0 0 1;enter 1 0 8 9;").calls("slack(0, 1) = 7"));
        holds("- `role`: number of an existing role", x -> x.calls("slack(0, 1) = -8; slack(4, 2) = 2;"
                + "slack(5, 0) = INVALID_ARGUMENT; slack(-1, 0) = INVALID_ARGUMENT").play(EIGHT_ROLES).calls(
                "slack(7, 0) = NOT_FOUND; slack(8, 0) = INVALID_ARGUMENT"));
        holds("- `other`: number of a different existing role", x -> x.calls("slack(1, 0) = -8; slack(2, 4) = 2;"
                + "slack(0, 5) = INVALID_ARGUMENT; slack(0, -1) = INVALID_ARGUMENT; slack(1, 1) = INVALID_ARGUMENT").play(
                EIGHT_ROLES).calls("slack(0, 7) = NOT_FOUND; slack(0, 8) = INVALID_ARGUMENT"));
        holds("Returns the slack", x -> {
            x.play(LONGEST_CHANGE).calls("slack(0, 1) = -120; slack(1, 0) = -120; setChangeTimes(0, 0, 60) = 0;"
                    + "setChangeTimes(1, 60, 0) = 0; slack(0, 1) = 0; addAppearance(0, 0, 9, 9) = INVALID_ARGUMENT");
            new Run().play("scene 99;".repeat(10) + "role low 0 9;role low 9 0;enter 0 0 0 1;enter 1 9 98 99;").calls(
                    "slack(0, 1) = 988; addAppearance(0, 9, 90, 93) = 3; slack(0, 1) = 5");
            // Each way has its own change time, and the least counts, wherever it stands.
            new Run().play("scene 90;role low 5 1;role low 2 3;enter 0 0 70 71;enter 1 0 40 50;enter 0 0 0 10;").calls(
                    "slack(0, 1) = 17; removeAppearance(0) = 2; slack(0, 1) = 22");
        });
        holds("INVALID_ARGUMENT if there is no such role or both are the same", x -> x.calls("slack(5, 0) = INVALID_ARGUMENT;"
                + "slack(0, 5) = INVALID_ARGUMENT; slack(-1, 0) = INVALID_ARGUMENT; slack(0, -1) = INVALID_ARGUMENT;"
                + "slack(MIN, 0) = INVALID_ARGUMENT; slack(0, MIN) = INVALID_ARGUMENT; slack(MAX, 0) = INVALID_ARGUMENT;"
                + "slack(0, MAX) = INVALID_ARGUMENT; slack(0, 0) = INVALID_ARGUMENT; slack(4, 4) = INVALID_ARGUMENT;"
                + "slack(5, 5) = INVALID_ARGUMENT").play(ONE_ROLE).calls("slack(0, 0) = INVALID_ARGUMENT"));
        holds("NOT_POSSIBLE if the roles overlap", x -> {
            x.calls("slack(0, 2) = NOT_POSSIBLE; slack(2, 0) = NOT_POSSIBLE; slack(3, 4) = NOT_POSSIBLE;"
                    + "addAppearance(0, 2, 0, 1) = 10; slack(0, 2) = NOT_POSSIBLE");
            new Run().play("scene 9;role low 9 9;role low 9 9;enter 0 0 0 4;enter 1 0 4 9;").calls("slack(0, 1) = -18;"
                    + "addAppearance(0, 0, 4, 5) = 3; slack(0, 1) = NOT_POSSIBLE; addAppearance(0, 0, 0, 1) = 4;"
                    + "slack(0, 1) = NOT_POSSIBLE; removeAppearance(2) = 3; slack(0, 1) = -18");
            new Run().play("scene 9;role low 0 0;role child 0 0;enter 0 0 0 9;enter 1 0 8 9;").calls(
                    "slack(0, 1) = NOT_POSSIBLE");
        });
        holds("NOT_FOUND if one of them has no appearance", x -> x.play("scene 9;role low 9 9;role low 9 9;role low 0 0;").calls(
                "slack(0, 1) = NOT_FOUND; addAppearance(0, 0, 0, 4) = 1; slack(0, 1) = NOT_FOUND; slack(1, 0) = NOT_FOUND;"
                + "addAppearance(0, 0, 6, 7) = 2; slack(0, 2) = NOT_FOUND; addAppearance(1, 0, 8, 9) = 3; slack(0, 1) = -17;"
                + "slack(2, 1) = NOT_FOUND; removeAppearance(2) = 2; slack(0, 1) = NOT_FOUND"));
    }

    private static void actors() {
        Sentences.under("Promise 23: actorOf");
        holds("Returns the actor of a role.", x -> x.calls("cast(4, 0) = 1; cast(3, 7) = 1; actorOf(4) = 0; actorOf(3) = 7;"
                + "cast(3, 1) = 1; actorOf(3) = 1; actorOf(4) = 0"));
        holds("- `role`: number of an existing role", x -> x.calls("adoptFirstCast() = 4; actorOf(0) = 0; actorOf(4) = 2;"
                + "actorOf(5) = INVALID_ARGUMENT; actorOf(-1) = INVALID_ARGUMENT").play(EIGHT_ROLES).calls("cast(7, 5) = 1;"
                + "actorOf(7) = 5; actorOf(8) = INVALID_ARGUMENT"));
        holds("Returns the actor", x -> {
            for (int actor = 0; actor < 8; actor++) {
                x.due("cast(0, " + actor + ")", 1).due("actorOf(0)", actor);
            }
        });
        holds("INVALID_ARGUMENT if there is no such role", x -> x.calls("actorOf(5) = INVALID_ARGUMENT;"
                + "actorOf(7) = INVALID_ARGUMENT; actorOf(8) = INVALID_ARGUMENT; actorOf(-1) = INVALID_ARGUMENT;"
                + "actorOf(MIN) = INVALID_ARGUMENT; actorOf(MAX) = INVALID_ARGUMENT"));
        holds("NOT_FOUND if the role has no actor", x -> x.calls("actorOf(0) = NOT_FOUND; actorOf(4) = NOT_FOUND;"
                + "cast(0, 0) = 1; actorOf(1) = NOT_FOUND; uncast(0) = 0; actorOf(0) = NOT_FOUND; cast(2, 3) = 1;"
                + "cast(4, 3) = 2; addAppearance(4, 0, 5, 6) = 10; actorOf(4) = NOT_FOUND; actorOf(2) = 3"));
        Sentences.under("Promise 24: rolesOf");
        holds("Returns the roles of an actor.", x -> x.calls("cast(2, 0) = 1; cast(4, 0) = 2; cast(1, 7) = 1; rolesOf(0) = 20;"
                + "rolesOf(7) = 2; rolesOf(1) = 0; uncast(2) = 0; rolesOf(0) = 16"));
        holds("- `actor`: 0 to 7", x -> x.calls("cast(0, 0) = 1; cast(1, 7) = 1; rolesOf(0) = 1; rolesOf(7) = 2;"
                + "rolesOf(8) = INVALID_ARGUMENT; rolesOf(-1) = INVALID_ARGUMENT"));
        holds("Returns the roles as a bit mask", x -> {
            x.play(EIGHT_ROLES).calls("rolesOf(5) = 0");
            for (int role = 0; role < 8; role++) {
                x.due("cast(" + role + ", 5)", role + 1).due("rolesOf(5)", (2 << role) - 1);
            }
        });
        holds("INVALID_ARGUMENT if actor is out of range", x -> x.calls("rolesOf(8) = INVALID_ARGUMENT;"
                + "rolesOf(-1) = INVALID_ARGUMENT; rolesOf(MIN) = INVALID_ARGUMENT; rolesOf(MAX) = INVALID_ARGUMENT;"
                + "rolesOf(-1004) = INVALID_ARGUMENT"));
    }

    private static void tightestChange() {
        Sentences.under("Promise 25: tightestChange");
        String row = "scene 99;" + "role low 1 2;".repeat(5)
                + "enter 0 0 0 9;enter 2 0 30 40;enter 3 0 90 99;enter 4 0 50 60;";
        holds("Returns the least slack of two roles of an actor.", x -> x.play(row).calls("cast(0, 7) = 1; cast(3, 7) = 2;"
                + "tightestChange(7) = 78; cast(2, 7) = 3; tightestChange(7) = 18; cast(4, 6) = 1; tightestChange(7) = 18;"
                + "tightestChange(6) = NOT_FOUND; cast(4, 7) = 4; tightestChange(7) = 7; uncast(4) = 7; tightestChange(7) = 18"));
        holds("- `actor`: 0 to 7", x -> x.play(row).calls("cast(0, 0) = 1; cast(2, 0) = 2; cast(3, 7) = 1; cast(4, 7) = 2;"
                + "tightestChange(0) = 18; tightestChange(7) = 27; tightestChange(8) = INVALID_ARGUMENT;"
                + "tightestChange(-1) = INVALID_ARGUMENT"));
        holds("Returns the least slack of all pairs of different roles of the actor that have appearances", x -> {
            // Role 1 has no appearance, and the appearances of one role are no pair of roles.
            x.play(row).calls("cast(1, 7) = 1; cast(0, 7) = 2; cast(2, 7) = 3; tightestChange(7) = 18;"
                    + "addAppearance(0, 0, 9, 10) = 5; tightestChange(7) = 17; addAppearance(0, 0, 27, 28) = 6;"
                    + "actorOf(2) = NOT_FOUND; tightestChange(7) = NOT_FOUND");
            new Run().play("scene 9;role low 0 0;role low 0 0;enter 0 0 0 4;enter 1 0 4 9;").calls("cast(0, 0) = 1;"
                    + "cast(1, 0) = 2; tightestChange(0) = 0");
            new Run().play(EIGHT_ROLES + "enter 7 0 8 9;enter 6 0 0 2;").calls("cast(6, 2) = 1; cast(7, 2) = 2;"
                    + "tightestChange(2) = 6");
        });
        holds("INVALID_ARGUMENT if actor is out of range", x -> x.calls("tightestChange(8) = INVALID_ARGUMENT;"
                + "tightestChange(-1) = INVALID_ARGUMENT; tightestChange(MIN) = INVALID_ARGUMENT;"
                + "tightestChange(MAX) = INVALID_ARGUMENT"));
        holds("NOT_FOUND if there is no such pair", x -> x.play(row).calls("tightestChange(7) = NOT_FOUND; cast(0, 7) = 1;"
                + "tightestChange(7) = NOT_FOUND; cast(1, 7) = 2; tightestChange(7) = NOT_FOUND; cast(2, 6) = 1;"
                + "tightestChange(7) = NOT_FOUND; cast(2, 7) = 3; tightestChange(7) = 18; removeAppearance(0) = 3;"
                + "tightestChange(7) = NOT_FOUND").play(EIGHT_ROLES).calls("adoptFirstCast() = 1; tightestChange(0) = NOT_FOUND"));
    }

    private static void casts() {
        Sentences.under("Promise 26: cliqueNumber");
        holds("Returns the greatest number of roles of a clique.", x -> {
            x.calls("cliqueNumber() = 4; setChangeTimes(3, 0, 0) = 0; setChangeTimes(0, 0, 0) = 0; cliqueNumber() = 3");
            new Run().play(ONE_ROLE).calls("cliqueNumber() = 1");
            new Run().play(EIGHT_ROLES).calls("cliqueNumber() = 1");
            new Run().play(FULL_STAGE).calls("cliqueNumber() = 8; removeAppearance(0) = 7; cliqueNumber() = 7");
            new Run().play(RING).calls("cliqueNumber() = 2");
        });
        Sentences.under("Promise 27: leastCast");
        holds("Returns the least cast.", x -> {
            x.calls("leastCast() = 4; cast(0, 7) = 1; leastCast() = 4");
            new Run().play(ONE_ROLE).calls("leastCast() = 1");
            new Run().play(EIGHT_ROLES).calls("leastCast() = 1");
            new Run().play(FULL_STAGE).calls("leastCast() = 8; removeAppearance(0) = 7; leastCast() = 7");
            new Run().play(RING).calls("leastCast() = 3");
            new Run().play(CROWN).calls("leastCast() = 2");
        });
        Sentences.under("Promise 28: firstCastActor");
        holds("Returns the actor of a role in the first cast.", x -> {
            x.calls("cast(0, 6) = 1; firstCastActor(0) = 0; firstCastActor(1) = 1; firstCastActor(2) = 2;"
                    + "firstCastActor(3) = 3; firstCastActor(4) = 2; actorOf(0) = 6; actorOf(1) = NOT_FOUND");
            new Run().play(CROWN).calls("firstCastActor(1) = 1; firstCastActor(0) = 0; firstCastActor(5) = 1;"
                    + "firstCastActor(2) = 0");
        });
        holds("- `role`: number of an existing role", x -> x.calls("firstCastActor(0) = 0; firstCastActor(4) = 2;"
                + "firstCastActor(5) = INVALID_ARGUMENT; firstCastActor(-1) = INVALID_ARGUMENT").play(FULL_STAGE).calls(
                "firstCastActor(7) = 7; firstCastActor(8) = INVALID_ARGUMENT"));
        holds("Returns the actor", x -> {
            x.play(FULL_STAGE);
            for (int role = 0; role < 8; role++) {
                x.due("firstCastActor(" + role + ")", role);
            }
            new Run().play(EIGHT_ROLES).calls("firstCastActor(0) = 0; firstCastActor(7) = 0");
            new Run().play(ONE_ROLE).calls("firstCastActor(0) = 0");
        });
        holds("INVALID_ARGUMENT if there is no such role", x -> x.calls("firstCastActor(5) = INVALID_ARGUMENT;"
                + "firstCastActor(8) = INVALID_ARGUMENT; firstCastActor(-1) = INVALID_ARGUMENT;"
                + "firstCastActor(MIN) = INVALID_ARGUMENT; firstCastActor(MAX) = INVALID_ARGUMENT"));
        Sentences.under("Promise 29: greedyCast");
        holds("Returns the number of actors if the roles are cast in the order of their numbers, each with the lowest "
                + "actor who has no role with which it conflicts.", x -> {
            x.calls("greedyCast() = 4; cast(0, 6) = 1; greedyCast() = 4; rolesOf(6) = 1; undo() = 0");
            new Run().play(ONE_ROLE).calls("greedyCast() = 1");
            new Run().play(EIGHT_ROLES).calls("greedyCast() = 1");
            new Run().play(FULL_STAGE).calls("greedyCast() = 8");
            new Run().play(RING).calls("greedyCast() = 3");
            new Run().play(CROWN).calls("greedyCast() = 3; leastCast() = 2; greedyCast() = 3");
        });
    }

    private static void faster() {
        Sentences.under("Promise 30: leastCastIfFaster");
        holds("Returns what the least cast would be if every change were faster.", x -> x.calls("leastCastIfFaster(0) = 4;"
                + "leastCastIfFaster(1) = 4; leastCastIfFaster(2) = 3; leastCastIfFaster(7) = 3; leastCastIfFaster(8) = 2;"
                + "leastCastIfFaster(120) = 2; leastCast() = 4"));
        holds("Nothing changes by this.", x -> {
            Run other = new Run().calls("cast(0, 1) = 1; setChangeTimes(4, 7, 7) = 0");
            x.calls("cast(0, 1) = 1; setChangeTimes(4, 7, 7) = 0; leastCastIfFaster(120) = 2; leastCastIfFaster(3) = 4;"
                    + "leastCast() = 5; conflictCount() = 10");
            Sentences.due("the play after leastCastIfFaster", x.allSeen(), other.allSeen());
        });
        holds("- `lines`: 0 to 120; every change time is reduced by this number of lines, but not below 0", x -> {
            x.play(LONGEST_CHANGE).calls("leastCastIfFaster(0) = 2; leastCastIfFaster(119) = 2; leastCastIfFaster(120) = 1;"
                    + "leastCastIfFaster(121) = INVALID_ARGUMENT; leastCastIfFaster(-1) = INVALID_ARGUMENT");
            // A change time below 0 would let roles that overlap by a few lines share an actor.
            new Run().play("scene 9;role low 0 0;role low 0 0;enter 0 0 0 5;enter 1 0 4 9;").calls(
                    "leastCastIfFaster(0) = 2; leastCastIfFaster(120) = 2");
            new Run().play("scene 9;role low 1 0;role low 0 1;enter 0 0 0 4;enter 1 0 5 9;").calls(
                    "leastCastIfFaster(0) = 2; leastCastIfFaster(1) = 1; leastCastIfFaster(2) = 1; leastCastIfFaster(120) = 1");
            // Every change time is reduced, not each costume time.
            new Run().play("scene 9;role low 9 0;role low 0 9;enter 0 0 0 4;enter 1 0 4 9;").calls(
                    "leastCastIfFaster(9) = 2; leastCastIfFaster(17) = 2; leastCastIfFaster(18) = 1");
        });
        holds("Returns the least cast with these change times", x -> {
            for (int lines = 0; lines <= 120; lines++) {
                x.due("leastCastIfFaster(" + lines + ")", lines < 2 ? 4 : lines < 8 ? 3 : 2);
            }
            new Run().play(ONE_ROLE).calls("leastCastIfFaster(0) = 1; leastCastIfFaster(120) = 1");
            new Run().play(FULL_STAGE).calls("leastCastIfFaster(0) = 8; leastCastIfFaster(120) = 8");
            new Run().play("scene 1;role low 60 60;role high 60 60;").calls("leastCastIfFaster(120) = 2");
        });
        holds("INVALID_ARGUMENT if lines is out of range", x -> x.calls("leastCastIfFaster(-1) = INVALID_ARGUMENT;"
                + "leastCastIfFaster(121) = INVALID_ARGUMENT; leastCastIfFaster(MIN) = INVALID_ARGUMENT;"
                + "leastCastIfFaster(MAX) = INVALID_ARGUMENT"));
    }

    private static void speedUpFor() {
        Sentences.under("Promise 31: speedUpFor");
        holds("Finds how much faster all changes must be for a cast of a given size.", x -> {
            x.calls("speedUpFor(2) = 8; speedUpFor(3) = 2; speedUpFor(4) = 0; speedUpFor(5) = 0; leastCast() = 4;"
                    + "conflictCount() = 9; undo() = NOT_POSSIBLE");
        });
        holds("- `size`: 1 to 8", x -> x.calls("speedUpFor(0) = INVALID_ARGUMENT; speedUpFor(1) = NOT_FOUND;"
                + "speedUpFor(8) = 0; speedUpFor(9) = INVALID_ARGUMENT").play(FULL_STAGE).calls("speedUpFor(8) = 0;"
                + "speedUpFor(7) = NOT_FOUND").play(ONE_ROLE).calls("speedUpFor(1) = 0; speedUpFor(8) = 0"));
        holds("Returns the least number of lines, from 0 to 120, for which leastCastIfFaster(lines) is at most size", x -> {
            x.play(LONGEST_CHANGE).calls("speedUpFor(1) = 120; speedUpFor(2) = 0");
            for (int out = 0; out <= 60; out++) {
                x.due("setChangeTimes(0, " + out + ", 0)", 0).due("speedUpFor(1)", out + 60);
            }
            x.calls("setChangeTimes(1, 0, 0) = 0");
            for (int out = 0; out <= 60; out++) {
                x.due("setChangeTimes(0, " + out + ", 0)", 0).due("speedUpFor(1)", out);
            }
            new Run().calls("leastCastIfFaster(7) = 3; leastCastIfFaster(8) = 2; speedUpFor(2) = 8;"
                    + "leastCastIfFaster(1) = 4; leastCastIfFaster(2) = 3; speedUpFor(3) = 2");
        });
        holds("INVALID_ARGUMENT if size is out of range", x -> x.calls("speedUpFor(0) = INVALID_ARGUMENT;"
                + "speedUpFor(9) = INVALID_ARGUMENT; speedUpFor(-1) = INVALID_ARGUMENT; speedUpFor(MIN) = INVALID_ARGUMENT;"
                + "speedUpFor(MAX) = INVALID_ARGUMENT"));
        holds("NOT_FOUND if there is none", x -> {
            x.calls("speedUpFor(1) = NOT_FOUND; speedUpFor(2) = 8");
            new Run().play("scene 9;role low 0 0;role low 0 0;enter 0 0 0 5;enter 1 0 4 9;").calls("speedUpFor(1) = NOT_FOUND;"
                    + "speedUpFor(2) = 0");
            new Run().play("scene 9;role low 0 0;role high 0 0;role child 0 0;").calls("speedUpFor(2) = NOT_FOUND;"
                    + "speedUpFor(3) = 0");
            new Run().play(FULL_STAGE).calls("speedUpFor(7) = NOT_FOUND");
        });
    }

    public static void main(String[] args) {
        Sentences.choose(args);
        counts();
        onStage();
        peak();
        rolesInScene();
        conflict();
        slack();
        actors();
        tightestChange();
        casts();
        faster();
        speedUpFor();
        Sentences.end();
    }
}

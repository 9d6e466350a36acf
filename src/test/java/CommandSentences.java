/** A test of its own for each sentence of promises 1 to 13: what is made, typed, edited and undone. */
public final class CommandSentences {
    private static final String FIRST_PLAY = "scene 30;scene 20;scene 40;role low 4 3;role low 2 6;"
            + "role high 5 5;role low 0 2;role high 3 1;enter 0 0 0 12;enter 1 0 18 30;enter 2 0 5 25;"
            + "enter 3 1 0 9;enter 0 1 10 20;enter 4 1 3 20;enter 1 2 2 15;enter 3 2 20 40;enter 2 2 30 40;";

    /** Five low roles one after the other, with ten lines between them. */
    private static final String ROW = "scene 90;" + "role low 0 0;".repeat(5)
            + "enter 0 0 0 10;enter 1 0 20 30;enter 2 0 40 50;enter 3 0 60 70;enter 4 0 80 90;";

    private static final String CAST_ROW = "cast(0, 6) = 1; cast(1, 6) = 2; cast(2, 6) = 3; cast(3, 6) = 4;"
            + "cast(4, 6) = 5;";

    private static final String EIGHT_ROLES = "scene 9;" + "role low 0 0;".repeat(8);

    private static final String TWENTY_ENTERS = "scene 9;role low 0 0;" + "enter 0 0 0 9;".repeat(20);

    private static void holds(String sentence, Sentences.Test test) {
        Sentences.holds(sentence, test);
    }

    private static void newObject() {
        Sentences.under("Promise 1: A new object");
        holds("Creates a planner with the play of the text \"" + FIRST_PLAY + "\" as if it had been configured, "
                + "and with an empty play text.", x -> {
            Run configured = new Run().play(FIRST_PLAY);
            Sentences.due("the new play", x.playSeen(), configured.playSeen());
            x.calls("undo() = NOT_POSSIBLE; clearText() = 0; firstError() = NOT_FOUND;"
                    + "configure() = NOT_POSSIBLE; append(97) = 1");
            for (int time = 0; time < 90; time++) {
                String call = "onStage(" + time + ")";
                x.due(call, configured.ask(call));
            }
            // The appearances stand in the order of the text.
            for (int left = 8; left >= 0; left--) {
                x.due("removeAppearance(0)", left);
                configured.due("removeAppearance(0)", left);
                for (int scene = 0; scene < 3; scene++) {
                    String call = "rolesInScene(" + scene + ")";
                    x.due(call, configured.ask(call));
                }
            }
        });
    }

    private static void append() {
        Sentences.under("Promise 2: append");
        holds("Appends a character to the play text.", x -> x.type("scene 7;role low 0 0;").calls(
                "firstError() = NOT_FOUND; configure() = 1; playLength() = 7; append(59) = 22; firstError() = 21;"
                + "roleCount() = 1; append(32) = 23; clearText() = 23"));
        holds("- `character`: an ASCII code from 32 to 126", x -> {
            x.calls("append(31) = INVALID_ARGUMENT; append(127) = INVALID_ARGUMENT");
            for (int character = 32; character <= 126; character++) {
                x.due("append(" + character + ")", character - 31);
            }
        });
        holds("Returns the new length of the text", x -> {
            for (int length = 1; length <= 400; length++) {
                x.due("append(97)", length);
            }
            x.calls("clearText() = 400; append(97) = 1");
        });
        holds("INVALID_ARGUMENT if character is out of range", x -> {
            String refused = "append(31) = INVALID_ARGUMENT; append(127) = INVALID_ARGUMENT;"
                    + "append(0) = INVALID_ARGUMENT; append(-1) = INVALID_ARGUMENT; append(128) = INVALID_ARGUMENT;"
                    + "append(65601) = INVALID_ARGUMENT; append(-65471) = INVALID_ARGUMENT;"
                    + "append(MIN) = INVALID_ARGUMENT; append(MAX) = INVALID_ARGUMENT;";
            x.calls(refused + "clearText() = 0");
            x.type("a".repeat(400)).calls(refused + "clearText() = 400");
        });
        holds("CAPACITY_EXCEEDED if the text already has 400 characters", x -> x.type("a".repeat(399)).calls(
                "append(32) = 400; append(32) = CAPACITY_EXCEEDED; append(126) = CAPACITY_EXCEEDED;"
                + "clearText() = 400; append(32) = 1"));
    }

    private static void clearText() {
        Sentences.under("Promise 3: clearText");
        holds("Makes the play text empty.", x -> {
            String before = x.playSeen();
            x.type("bad").calls("firstError() = 0; clearText() = 3; firstError() = NOT_FOUND;"
                    + "errorReason() = NOT_FOUND; configure() = NOT_POSSIBLE; append(97) = 1; clearText() = 1");
            x.type("scene 5;role low 0 0;").calls("firstError() = NOT_FOUND; clearText() = 21; undo() = NOT_POSSIBLE");
            Sentences.due("the play after clearText", x.playSeen(), before);
        });
        holds("Returns the length it had.", x -> x.calls("clearText() = 0; append(32) = 1; clearText() = 1;"
                + "clearText() = 0").type("a".repeat(400)).calls("append(97) = CAPACITY_EXCEEDED;"
                + "clearText() = 400; clearText() = 0"));
    }

    private static void firstError() {
        Sentences.under("Promise 4: firstError");
        holds("Finds the first malformed statement of the play text.", x -> {
            x.type("scene 9;scene 0;bad;scene x;").calls("firstError() = 8; clearText() = 28");
            x.type("scene 9;role low 0 0;bad;scene 0;").calls("firstError() = 21; clearText() = 33");
            // A later statement can't mend an earlier one.
            x.type("enter 0 0 0 9;scene 9;role low 0 0;").calls("firstError() = 0; clearText() = 35");
            x.type("scene 1;".repeat(12)).calls("firstError() = 80");
        });
        holds("Returns the index (from 0) of its first character", x -> {
            x.type("x").calls("firstError() = 0; clearText() = 1");
            x.type("scene 1;;").calls("firstError() = 8; clearText() = 9");
            x.type("scene 1; ").calls("firstError() = 8; clearText() = 9");
            x.type("scene 1;role low 0 0;enter 0 0 0 2;").calls("firstError() = 21; clearText() = 35");
            new Run().type(TWENTY_ENTERS + "scene 1;".repeat(9) + "role high 0 0;role low 0 0:").calls(
                    "firstError() = 387");
            new Run().type("role low 0 0;".repeat(3) + TWENTY_ENTERS + "role low 60 60;".repeat(3) + "scene 001;9999;")
                    .calls("firstError() = 395");
        });
        holds("NOT_FOUND if no statement is malformed (an empty text has none)", x -> {
            x.calls("firstError() = NOT_FOUND").type(FIRST_PLAY).calls("firstError() = NOT_FOUND; clearText() = 232;"
                    + "firstError() = NOT_FOUND").type("scene 1;").calls("firstError() = NOT_FOUND");
        });
    }

    private static void errorReason() {
        Sentences.under("Promise 5: errorReason");
        holds("Tells why the first malformed statement is malformed.", x -> {
            x.type("scene 9;scene 0;bad;scene x;").calls("errorReason() = OUT_OF_RANGE; clearText() = 28");
            x.type("scene 9;bad;scene 0;").calls("errorReason() = UNKNOWN_WORD; clearText() = 20");
            x.type("scene x;bad;scene 0;").calls("errorReason() = BAD_NUMBER; clearText() = 20");
            x.type("scene 1;".repeat(11) + "bad;").calls("errorReason() = TOO_MANY");
        });
        holds("Returns UNKNOWN_WORD, BAD_NUMBER, OUT_OF_RANGE or TOO_MANY", x -> x.type("play;").calls(
                "errorReason() = UNKNOWN_WORD; clearText() = 5").type("scene 1").calls(
                "errorReason() = BAD_NUMBER; append(48) = 8; append(48) = 9; append(59) = 10;"
                + "errorReason() = OUT_OF_RANGE; clearText() = 10").type("scene 1;".repeat(10)).calls(
                "errorReason() = NOT_FOUND").type("scene 1;").calls("errorReason() = TOO_MANY"));
        holds("NOT_FOUND if no statement is malformed", x -> x.calls("errorReason() = NOT_FOUND").type(
                "scene 1;role low 0 0;").calls("errorReason() = NOT_FOUND; append(120) = 22;"
                + "errorReason() = UNKNOWN_WORD; clearText() = 22; errorReason() = NOT_FOUND"));
    }

    private static void configure() {
        Sentences.under("Promise 6: configure");
        holds("Configures the planner by the play text, which stays as it is.", x -> {
            x.type("scene 20;scene 9;role low 1 2;role child 60 0;enter 1 1 3 9;").calls("configure() = 2;"
                    + "roleCount() = 2; playLength() = 29; appearanceCount() = 1; onStage(22) = 0; onStage(23) = 2;"
                    + "onStage(28) = 2; rolesInScene(0) = 0; conflict(0, 1) = VOICE; rolesInScene(2) = INVALID_ARGUMENT;"
                    + "removeAppearance(0) = 0; configure() = 2; appearanceCount() = 1; firstError() = NOT_FOUND;"
                    + "append(115) = 61; clearText() = 61");
            // A refused configure leaves the text too.
            x.type("bad").calls("configure() = NOT_POSSIBLE; firstError() = 0; clearText() = 3");
        });
        holds("No role is cast.", x -> x.calls("adoptFirstCast() = 4").play(FIRST_PLAY).calls(
                "actorOf(0) = NOT_FOUND; actorOf(1) = NOT_FOUND; actorOf(2) = NOT_FOUND; actorOf(3) = NOT_FOUND;"
                + "actorOf(4) = NOT_FOUND; rolesOf(0) = 0; cast(3, 7) = 1; configure() = 5; rolesOf(7) = 0;"
                + "rolesOf(0) = 0"));
        holds("Returns the number of roles", x -> {
            x.play("scene 1;role low 0 0;").calls("configure() = 1; clearText() = 21");
            x.type(EIGHT_ROLES).calls("configure() = 8; roleCount() = 8");
        });
        holds("NOT_POSSIBLE if a statement is malformed, or if there is no scene or no role", x -> {
            for (String text : new String[] {"", "scene 5;", "role low 0 0;", "scene 5;role low 0 0;x",
                "scene 5;role low 0 0;scene 5", "scene 5;role low 0 0;enter 0 0 0 6;", "role low 0 0;scene 0;"}) {
                x.type(text).calls("configure() = NOT_POSSIBLE; roleCount() = 5").due("clearText()", text.length());
            }
            new Run().type("scene 1;".repeat(11) + "role low 0 0;").calls("configure() = NOT_POSSIBLE");
            new Run().type("role low 0 0;scene 1;").calls("configure() = 1");
        });
    }

    private static void addAppearance() {
        Sentences.under("Promise 7: addAppearance");
        holds("Adds an appearance behind the others.", x -> {
            x.calls("addAppearance(4, 2, 0, 1) = 10; onStage(50) = 16; removeAppearance(9) = 9; onStage(50) = 0;"
                    + "appearanceCount() = 9; addAppearance(1, 0, 0, 1) = 10; removeAppearance(0) = 9;"
                    + "onStage(0) = 2; removeAppearance(8) = 8; onStage(0) = 0");
            new Run().play(EIGHT_ROLES).calls("addAppearance(7, 0, 0, 1) = 1; onStage(0) = 128;"
                    + "addAppearance(7, 0, 0, 1) = 2; removeAppearance(1) = 1; onStage(0) = 128");
        });
        holds("- `role`: number of an existing role", x -> x.calls("addAppearance(0, 0, 0, 1) = 10;"
                + "addAppearance(4, 0, 0, 1) = 11; addAppearance(5, 0, 0, 1) = INVALID_ARGUMENT;"
                + "addAppearance(-1, 0, 0, 1) = INVALID_ARGUMENT; onStage(0) = 17"));
        holds("- `scene`: number of an existing scene", x -> x.calls("addAppearance(1, 0, 0, 1) = 10;"
                + "addAppearance(1, 2, 0, 1) = 11; addAppearance(1, 3, 0, 1) = INVALID_ARGUMENT;"
                + "addAppearance(1, -1, 0, 1) = INVALID_ARGUMENT; onStage(0) = 3; onStage(50) = 2"));
        holds("- `enter`: line at which the role enters, from 0", x -> x.calls(
                "addAppearance(1, 1, -1, 1) = INVALID_ARGUMENT; addAppearance(1, 1, 0, 1) = 10; onStage(29) = 2;"
                + "onStage(30) = 10; onStage(31) = 8; addAppearance(1, 1, 19, 20) = 11; onStage(49) = 19"));
        holds("- `exit`: line at which the role exits, greater than enter and at most the length of the scene", x ->
                x.calls("addAppearance(1, 1, 4, 4) = INVALID_ARGUMENT; addAppearance(1, 1, 5, 4) = INVALID_ARGUMENT;"
                + "addAppearance(1, 1, 20, 20) = INVALID_ARGUMENT; addAppearance(1, 1, 0, 21) = INVALID_ARGUMENT;"
                + "addAppearance(1, 1, 20, 21) = INVALID_ARGUMENT; addAppearance(1, 1, 4, 5) = 10; onStage(33) = 24;"
                + "onStage(34) = 26; onStage(35) = 24; addAppearance(1, 1, 0, 20) = 11; onStage(49) = 19;"
                + "addAppearance(1, 0, 0, 31) = INVALID_ARGUMENT; addAppearance(1, 0, 0, 30) = 12"));
        holds("Returns the number of appearances", x -> {
            x.play(EIGHT_ROLES);
            for (int n = 1; n <= 20; n++) {
                x.due("addAppearance(0, 0, 0, 9)", n).due("appearanceCount()", n);
            }
        });
        holds("INVALID_ARGUMENT if an argument is out of range", x -> x.calls(
                "addAppearance(MIN, 0, 0, 1) = INVALID_ARGUMENT; addAppearance(MAX, 0, 0, 1) = INVALID_ARGUMENT;"
                + "addAppearance(0, MIN, 0, 1) = INVALID_ARGUMENT; addAppearance(0, MAX, 0, 1) = INVALID_ARGUMENT;"
                + "addAppearance(0, 0, MIN, 1) = INVALID_ARGUMENT; addAppearance(0, 0, MAX, 1) = INVALID_ARGUMENT;"
                + "addAppearance(0, 0, 0, MIN) = INVALID_ARGUMENT; addAppearance(0, 0, 0, MAX) = INVALID_ARGUMENT;"
                + "addAppearance(0, 0, MAX, MIN) = INVALID_ARGUMENT; addAppearance(0, 0, MIN, MAX) = INVALID_ARGUMENT;"
                + "addAppearance(5, 3, 0, 1) = INVALID_ARGUMENT; addAppearance(0, 0, 0, 0) = INVALID_ARGUMENT;"
                + "appearanceCount() = 9; undo() = NOT_POSSIBLE"));
        holds("CAPACITY_EXCEEDED if there are already 20", x -> x.play(TWENTY_ENTERS).calls(
                "addAppearance(0, 0, 0, 9) = CAPACITY_EXCEEDED; appearanceCount() = 20; removeAppearance(3) = 19;"
                + "addAppearance(0, 0, 0, 9) = 20; addAppearance(0, 0, 0, 9) = CAPACITY_EXCEEDED; undo() = 1"));
    }

    private static void removeAppearance() {
        Sentences.under("Promise 8: removeAppearance");
        holds("Removes an appearance; the numbers of those behind it become smaller by 1.", x -> {
            x.calls("removeAppearance(1) = 8; onStage(18) = 4; removeAppearance(1) = 7; onStage(18) = 0;"
                    + "onStage(5) = 1; removeAppearance(6) = 6; onStage(89) = 8; removeAppearance(0) = 5;"
                    + "onStage(0) = 0; onStage(30) = 8; removeAppearance(0) = 4; onStage(30) = 0; onStage(40) = 17;"
                    + "removeAppearance(2) = 3; onStage(52) = 0; onStage(70) = 8; onStage(40) = 17");
            // An appearance less ends a conflict and takes no actor.
            new Run().play("scene 60;role low 9 9;role low 9 9;enter 0 0 0 10;enter 1 0 5 15;enter 1 0 28 30;").calls(
                    "cast(1, 3) = 1; cast(0, 3) = NOT_POSSIBLE; removeAppearance(1) = 2; slack(0, 1) = 0;"
                    + "actorOf(1) = 3; cast(0, 3) = 2");
        });
        holds("- `appearance`: number of an existing appearance", x -> x.calls("removeAppearance(9) = INVALID_ARGUMENT;"
                + "removeAppearance(-1) = INVALID_ARGUMENT; removeAppearance(8) = 8;"
                + "removeAppearance(8) = INVALID_ARGUMENT; removeAppearance(0) = 7; onStage(0) = 0"));
        holds("Returns the number of appearances that are left", x -> {
            x.play(TWENTY_ENTERS);
            for (int left = 19; left >= 0; left--) {
                x.due("removeAppearance(0)", left).due("appearanceCount()", left);
            }
        });
        holds("INVALID_ARGUMENT if there is no such appearance", x -> x.calls("removeAppearance(9) = INVALID_ARGUMENT;"
                + "removeAppearance(-1) = INVALID_ARGUMENT; removeAppearance(MIN) = INVALID_ARGUMENT;"
                + "removeAppearance(MAX) = INVALID_ARGUMENT; appearanceCount() = 9; undo() = NOT_POSSIBLE").play(
                EIGHT_ROLES).calls("removeAppearance(0) = INVALID_ARGUMENT; addAppearance(0, 0, 0, 1) = 1;"
                + "removeAppearance(1) = INVALID_ARGUMENT; removeAppearance(0) = 0").play(TWENTY_ENTERS).calls(
                "removeAppearance(20) = INVALID_ARGUMENT; removeAppearance(19) = 19"));
    }

    private static void setChangeTimes() {
        Sentences.under("Promise 9: setChangeTimes");
        holds("Sets the costume times of a role.", x -> x.play(
                "scene 90;role low 1 2;role low 3 4;enter 0 0 0 10;enter 1 0 30 40;enter 0 0 60 70;").calls(
                "slack(0, 1) = 15; setChangeTimes(0, 10, 0) = 0; slack(0, 1) = 6; setChangeTimes(0, 0, 10) = 0;"
                + "slack(0, 1) = 7; setChangeTimes(1, 0, 15) = 0; slack(0, 1) = 5; setChangeTimes(1, 20, 0) = 0;"
                + "slack(0, 1) = -10; conflict(0, 1) = CHANGE; undo() = 3; slack(0, 1) = 5"));
        holds("- `role`: number of an existing role", x -> x.calls("setChangeTimes(0, 0, 0) = 0;"
                + "setChangeTimes(4, 0, 0) = 0; setChangeTimes(5, 0, 0) = INVALID_ARGUMENT;"
                + "setChangeTimes(-1, 0, 0) = INVALID_ARGUMENT; slack(2, 4) = 3"));
        holds("- `out`: time to get out of the costume, 0 to 60", x -> x.play(
                "scene 90;role low 5 5;role low 0 0;enter 0 0 0 10;enter 1 0 70 80;").calls(
                "setChangeTimes(0, 0, 7) = 0; slack(0, 1) = 60; setChangeTimes(0, 60, 7) = 0; slack(0, 1) = 0;"
                + "setChangeTimes(0, 61, 7) = INVALID_ARGUMENT; setChangeTimes(0, -1, 7) = INVALID_ARGUMENT;"
                + "slack(0, 1) = 0"));
        holds("- `in`: time to get into the costume, 0 to 60", x -> x.play(
                "scene 90;role low 0 0;role low 5 5;enter 0 0 0 10;enter 1 0 70 80;").calls(
                "setChangeTimes(1, 7, 0) = 0; slack(0, 1) = 60; setChangeTimes(1, 7, 60) = 0; slack(0, 1) = 0;"
                + "setChangeTimes(1, 7, 61) = INVALID_ARGUMENT; setChangeTimes(1, 7, -1) = INVALID_ARGUMENT;"
                + "slack(0, 1) = 0"));
        holds("Returns the number of all roles that lose their actor by this", x -> {
            x.play(ROW).calls(CAST_ROW + "setChangeTimes(0, 10, 60) = 0; rolesOf(6) = 31;"
                    + "setChangeTimes(0, 11, 60) = 1; rolesOf(6) = 29; setChangeTimes(0, 60, 60) = 2;"
                    + "rolesOf(6) = 17; setChangeTimes(0, 60, 60) = 0; setChangeTimes(0, 0, 0) = 0; rolesOf(6) = 17");
            new Run().play(ROW).calls(CAST_ROW + "setChangeTimes(4, 0, 11) = 1; actorOf(4) = NOT_FOUND; rolesOf(6) = 15");
            // Roles that conflict with it but have other actors, or none, are not counted.
            new Run().play("scene 90;" + "role low 0 0;".repeat(4)
                    + "enter 0 0 0 10;enter 2 0 20 30;enter 3 0 20 30;enter 1 0 20 30;").calls("cast(0, 1) = 1;"
                    + "cast(3, 1) = 2; cast(2, 4) = 1; setChangeTimes(0, 60, 60) = 1; rolesOf(1) = 1; rolesOf(4) = 4");
        });
        holds("INVALID_ARGUMENT if an argument is out of range", x -> x.calls("cast(0, 1) = 1;"
                + "setChangeTimes(5, 0, 0) = INVALID_ARGUMENT; setChangeTimes(-1, 0, 0) = INVALID_ARGUMENT;"
                + "setChangeTimes(MIN, 0, 0) = INVALID_ARGUMENT; setChangeTimes(MAX, 0, 0) = INVALID_ARGUMENT;"
                + "setChangeTimes(0, 61, 0) = INVALID_ARGUMENT; setChangeTimes(0, -1, 0) = INVALID_ARGUMENT;"
                + "setChangeTimes(0, MIN, 0) = INVALID_ARGUMENT; setChangeTimes(0, MAX, 0) = INVALID_ARGUMENT;"
                + "setChangeTimes(0, 0, 61) = INVALID_ARGUMENT; setChangeTimes(0, 0, -1) = INVALID_ARGUMENT;"
                + "setChangeTimes(0, 0, MIN) = INVALID_ARGUMENT; setChangeTimes(0, 0, MAX) = INVALID_ARGUMENT;"
                + "setChangeTimes(5, 61, 61) = INVALID_ARGUMENT; slack(0, 1) = -8; undo() = 0"));
    }

    private static void cast() {
        Sentences.under("Promise 10: cast");
        holds("Casts a role, which may have had another actor or the same one, with an actor.", x -> x.calls(
                "cast(2, 7) = 1; actorOf(2) = 7; cast(2, 7) = 1; actorOf(2) = 7; cast(4, 7) = 2; cast(4, 7) = 2;"
                + "cast(2, 0) = 1; actorOf(2) = 0; rolesOf(7) = 16; rolesOf(0) = 4; cast(2, 7) = 2; rolesOf(0) = 0"));
        holds("- `role`: number of an existing role", x -> x.calls("cast(0, 0) = 1; cast(4, 1) = 1;"
                + "cast(5, 2) = INVALID_ARGUMENT; cast(-1, 2) = INVALID_ARGUMENT; rolesOf(2) = 0").play(EIGHT_ROLES)
                .calls("cast(7, 0) = 1; cast(8, 0) = INVALID_ARGUMENT; rolesOf(0) = 128"));
        holds("- `actor`: 0 to 7", x -> x.calls("cast(0, 0) = 1; actorOf(0) = 0; cast(0, 7) = 1; actorOf(0) = 7;"
                + "cast(0, 8) = INVALID_ARGUMENT; cast(0, -1) = INVALID_ARGUMENT; actorOf(0) = 7"));
        holds("Returns the number of roles the actor has then", x -> {
            x.play(EIGHT_ROLES);
            for (int role = 0; role < 8; role++) {
                x.due("cast(" + role + ", 3)", role + 1);
            }
            x.calls("cast(7, 3) = 8; cast(7, 2) = 1; cast(6, 2) = 2; cast(5, 3) = 6");
        });
        holds("INVALID_ARGUMENT if an argument is out of range", x -> x.calls("cast(5, 0) = INVALID_ARGUMENT;"
                + "cast(-1, 0) = INVALID_ARGUMENT; cast(MIN, 0) = INVALID_ARGUMENT; cast(MAX, 0) = INVALID_ARGUMENT;"
                + "cast(0, 8) = INVALID_ARGUMENT; cast(0, -1) = INVALID_ARGUMENT; cast(0, MIN) = INVALID_ARGUMENT;"
                + "cast(0, MAX) = INVALID_ARGUMENT; cast(5, 8) = INVALID_ARGUMENT; cast(0, -1004) = INVALID_ARGUMENT;"
                + "actorOf(0) = NOT_FOUND; undo() = NOT_POSSIBLE"));
        holds("NOT_POSSIBLE if the role conflicts with another role of the actor", x -> x.calls("cast(0, 0) = 1;"
                + "cast(3, 0) = NOT_POSSIBLE; cast(2, 0) = NOT_POSSIBLE; cast(0, 0) = 1; cast(4, 1) = 1;"
                + "cast(2, 1) = 2; cast(0, 1) = NOT_POSSIBLE; actorOf(0) = 0; addAppearance(4, 0, 24, 25) = 10;"
                + "actorOf(4) = NOT_FOUND; cast(4, 1) = NOT_POSSIBLE; rolesOf(1) = 4; uncast(2) = 1; cast(4, 1) = 1;"
                + "cast(2, 1) = NOT_POSSIBLE"));
    }

    private static void uncast() {
        Sentences.under("Promise 11: uncast");
        holds("Takes the actor from a role.", x -> x.calls("cast(2, 7) = 1; cast(4, 7) = 2; uncast(4) = 7;"
                + "actorOf(4) = NOT_FOUND; actorOf(2) = 7; rolesOf(7) = 4; undo() = 2; rolesOf(7) = 20"));
        holds("- `role`: number of an existing role", x -> x.calls("adoptFirstCast() = 4; uncast(5) = INVALID_ARGUMENT;"
                + "uncast(-1) = INVALID_ARGUMENT; uncast(0) = 0; uncast(4) = 2; rolesOf(2) = 4"));
        holds("Returns the actor", x -> {
            for (int actor = 0; actor < 8; actor++) {
                x.due("cast(1, " + actor + ")", 1).due("uncast(1)", actor);
            }
        });
        holds("INVALID_ARGUMENT if there is no such role", x -> x.calls("adoptFirstCast() = 4;"
                + "uncast(5) = INVALID_ARGUMENT; uncast(-1) = INVALID_ARGUMENT; uncast(8) = INVALID_ARGUMENT;"
                + "uncast(MIN) = INVALID_ARGUMENT; uncast(MAX) = INVALID_ARGUMENT; undo() = 0"));
        holds("NOT_POSSIBLE if the role has no actor", x -> x.calls("uncast(0) = NOT_POSSIBLE; uncast(4) = NOT_POSSIBLE;"
                + "undo() = NOT_POSSIBLE; cast(0, 0) = 1; uncast(1) = NOT_POSSIBLE; uncast(0) = 0;"
                + "uncast(0) = NOT_POSSIBLE; undo() = 1"));
    }

    private static void adoptFirstCast() {
        Sentences.under("Promise 12: adoptFirstCast");
        holds("Casts all roles by the first cast, whatever actors they had.", x -> {
            x.calls("cast(0, 7) = 1; cast(2, 0) = 1; cast(3, 5) = 1; adoptFirstCast() = 4; actorOf(0) = 0;"
                    + "actorOf(1) = 1; actorOf(2) = 2; actorOf(3) = 3; actorOf(4) = 2; rolesOf(7) = 0; rolesOf(5) = 0;"
                    + "undo() = 3; actorOf(0) = 7; actorOf(1) = NOT_FOUND; actorOf(2) = 0");
            // Every role that has an actor here gets another one.
            new Run().play("scene 1;role low 0 0;role high 0 0;").calls("cast(0, 1) = 1; cast(1, 0) = 1;"
                    + "adoptFirstCast() = 2; actorOf(0) = 0; actorOf(1) = 1");
        });
        holds("Returns the least cast.", x -> {
            x.calls("adoptFirstCast() = 4; adoptFirstCast() = 4");
            new Run().play("scene 1;role low 0 0;").calls("adoptFirstCast() = 1; rolesOf(0) = 1");
            new Run().play(EIGHT_ROLES).calls("adoptFirstCast() = 1; rolesOf(0) = 255");
            Run full = new Run().play(EIGHT_ROLES);
            for (int role = 0; role < 8; role++) {
                full.due("addAppearance(" + role + ", 0, 0, 1)", role + 1);
            }
            full.calls("adoptFirstCast() = 8; actorOf(7) = 7; actorOf(0) = 0");
        });
    }

    private static void undo() {
        Sentences.under("Promise 13: undo");
        holds("Undoes the newest edit.", x -> {
            String[] edits = {"cast(0, 3) = 1", "removeAppearance(4) = 8", "addAppearance(4, 2, 0, 40) = 9",
                "adoptFirstCast() = 4", "setChangeTimes(1, 1, 2) = 0", "uncast(0) = 0", "addAppearance(3, 0, 0, 30) = 10"};
            for (int n = 0; n < edits.length; n++) {
                Run before = new Run();
                Run after = new Run();
                for (int i = 0; i < n; i++) {
                    before.calls(edits[i]);
                    after.calls(edits[i]);
                }
                after.calls(edits[n]).ask("undo()");
                Sentences.due("the play after undo of " + edits[n], after.playSeen(), before.playSeen());
            }
            // Roles that lost their actor by the edit have it back, and appearances their numbers.
            x.play(ROW).calls(CAST_ROW + "setChangeTimes(0, 60, 0) = 3; undo() = 4; rolesOf(6) = 31; slack(0, 1) = 10;"
                    + "addAppearance(0, 0, 0, 90) = 6; rolesOf(6) = 1; undo() = 4; rolesOf(6) = 31;"
                    + "removeAppearance(0) = 4; undo() = 4; removeAppearance(0) = 4; onStage(0) = 0; onStage(20) = 2");
        });
        holds("Returns the number of edits that can still be undone", x -> x.calls("cast(0, 0) = 1; undo() = 0;"
                + "cast(0, 0) = 1; uncast(0) = 0; cast(0, 1) = 1; undo() = 2; cast(0, 2) = 1; cast(0, 3) = 1;"
                + "cast(0, 4) = 1; cast(0, 5) = 1; undo() = 4; undo() = 3; undo() = 2; undo() = 1; undo() = 0"));
        holds("NOT_POSSIBLE if there is none to undo", x -> x.calls("undo() = NOT_POSSIBLE; cast(0, 0) = 1; undo() = 0;"
                + "undo() = NOT_POSSIBLE; cast(0, 0) = 1; cast(0, 0) = 1; cast(0, 0) = 1; cast(0, 0) = 1;"
                + "cast(0, 0) = 1; cast(0, 0) = 1; undo() = 4; undo() = 3; undo() = 2; undo() = 1; undo() = 0;"
                + "undo() = NOT_POSSIBLE; undo() = NOT_POSSIBLE; actorOf(0) = 0; cast(1, 1) = 1").play(EIGHT_ROLES)
                .calls("undo() = NOT_POSSIBLE"));
    }

    public static void main(String[] args) {
        Sentences.choose(args);
        newObject();
        append();
        clearText();
        firstError();
        errorReason();
        configure();
        addAppearance();
        removeAppearance();
        setChangeTimes();
        cast();
        uncast();
        adoptFirstCast();
        undo();
        Sentences.end();
    }
}

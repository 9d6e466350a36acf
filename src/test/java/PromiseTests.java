/** At least one test for each promise of the document: ordinary inputs, edges and wrong inputs. */
public final class PromiseTests {
    private static final int INVALID = -1001;
    private static final int NOT_POSSIBLE = -1002;
    private static final int FULL = -1003;
    private static final int NOT_FOUND = -1004;
    private static final int MIN = Integer.MIN_VALUE;
    private static final int MAX = Integer.MAX_VALUE;

    private static final String NEW_PLAY = "scene 30;scene 20;scene 40;"
            + "role low 4 3;role low 2 6;role high 5 5;role low 0 2;role high 3 1;"
            + "enter 0 0 0 12;enter 1 0 18 30;enter 2 0 5 25;enter 3 1 0 9;enter 0 1 10 20;"
            + "enter 4 1 3 20;enter 1 2 2 15;enter 3 2 20 40;enter 2 2 30 40;";

    private static int promise;
    private static int wrong;

    private static void due(String call, int got, int want) {
        if (got != want) {
            wrong++;
            System.out.println("promise " + promise + ": " + call + " answered " + got
                    + ", due is " + want);
        }
    }

    private static RoleDoublingPlanner withText(String text) {
        RoleDoublingPlanner x = new RoleDoublingPlanner();
        type(x, text);
        return x;
    }

    private static void type(RoleDoublingPlanner x, String text) {
        for (int i = 0; i < text.length(); i++) {
            x.append(text.charAt(i));
        }
    }

    private static RoleDoublingPlanner playing(String text) {
        RoleDoublingPlanner x = withText(text);
        if (x.configure() < 1) {
            wrong++;
            System.out.println("promise " + promise + ": not configured: " + text);
        }
        return x;
    }

    private static String times(int count, String statement) {
        return statement.repeat(count);
    }

    private static void malformed(String text, int place, int reason) {
        RoleDoublingPlanner x = withText(text);
        due("firstError() of \"" + text + "\"", x.firstError(), place);
        due("errorReason() of \"" + text + "\"", x.errorReason(), reason);
        due("configure() of \"" + text + "\"", x.configure(), NOT_POSSIBLE);
    }

    private static void wellFormed(String text) {
        RoleDoublingPlanner x = withText(text);
        due("firstError() of \"" + text + "\"", x.firstError(), NOT_FOUND);
        due("errorReason() of \"" + text + "\"", x.errorReason(), NOT_FOUND);
    }

    /** What tells the state of a play, in one text, with few calls: an object has 512 of them. */
    private static String portrait(RoleDoublingPlanner x) {
        StringBuilder b = new StringBuilder();
        int roles = x.roleCount();
        int length = x.playLength();
        b.append(roles).append('/').append(x.appearanceCount()).append('/').append(length);
        for (int t = 0; t < length; t += 5) {
            b.append(' ').append(x.onStage(t));
        }
        for (int r = 0; r < roles; r++) {
            b.append(" a").append(x.actorOf(r));
            for (int q = 0; q < r; q++) {
                b.append(',').append(x.conflict(r, q)).append(':').append(x.slack(r, q));
            }
        }
        return b.toString();
    }

    private static void same(String what, String got, String want) {
        if (!got.equals(want)) {
            wrong++;
            System.out.println("promise " + promise + ": " + what + "\n  is  " + got
                    + "\n  not " + want);
        }
    }

    private static void newObject() {
        promise = 1;
        RoleDoublingPlanner x = new RoleDoublingPlanner();
        due("roleCount()", x.roleCount(), 5);
        due("appearanceCount()", x.appearanceCount(), 9);
        due("playLength()", x.playLength(), 90);
        due("clearText()", x.clearText(), 0);
        due("firstError()", x.firstError(), NOT_FOUND);
        due("undo()", x.undo(), NOT_POSSIBLE);
        for (int r = 0; r < 5; r++) {
            due("actorOf", x.actorOf(r), NOT_FOUND);
        }
        same("a new object", portrait(new RoleDoublingPlanner()), portrait(playing(NEW_PLAY)));
        due("conflict(0, 1)", x.conflict(0, 1), 3);
        due("slack(0, 1)", x.slack(0, 1), -8);
        due("conflict(0, 2)", x.conflict(0, 2), 1);
        due("conflict(1, 3)", x.conflict(1, 3), 3);
        due("slack(1, 3)", x.slack(1, 3), -4);
        due("conflictCount()", x.conflictCount(), 9);
        due("configure() with an empty text", x.configure(), NOT_POSSIBLE);
    }

    private static void appending() {
        promise = 2;
        RoleDoublingPlanner x = new RoleDoublingPlanner();
        due("append(31)", x.append(31), INVALID);
        due("append(127)", x.append(127), INVALID);
        due("append(MIN)", x.append(MIN), INVALID);
        due("append(MAX)", x.append(MAX), INVALID);
        due("append(65536 + 65)", x.append(65536 + 65), INVALID);
        due("append(32)", x.append(32), 1);
        due("append(126)", x.append(126), 2);
        for (int length = 3; length <= 400; length++) {
            due("append('a')", x.append('a'), length);
        }
        due("append('a') to 400", x.append('a'), FULL);
        due("append(31) to 400", x.append(31), INVALID);
        due("clearText() after a refusal", x.clearText(), 400);
        type(x, "scene 1;role low 0 0;");
        due("configure() by the text appended", x.configure(), 1);
        due("append behind a configured text", x.append('x'), 22);
    }

    private static void clearing() {
        promise = 3;
        RoleDoublingPlanner x = new RoleDoublingPlanner();
        due("clearText() of an empty text", x.clearText(), 0);
        type(x, "bad");
        due("clearText()", x.clearText(), 3);
        due("clearText() again", x.clearText(), 0);
        due("firstError() of the cleared text", x.firstError(), NOT_FOUND);
        due("append to a cleared text", x.append('x'), 1);
        same("the play after clearText", portrait(x), portrait(new RoleDoublingPlanner()));
    }

    private static void errors() {
        promise = 4;
        wellFormed("");
        wellFormed(NEW_PLAY);
        wellFormed("scene 1;scene 99;scene 001;role low 0 60;role high 60 0;role child 060 00;");
        wellFormed("scene 9;role low 0 0;enter 0 0 0 9;enter 000 000 008 009;");
        wellFormed(times(10, "scene 9;") + times(8, "role low 0 0;"));
        wellFormed("scene 9;role low 0 0;" + times(20, "enter 0 0 0 9;"));
        malformed("x", 0, 1);
        malformed("scene 1;role low 0 0;bad;worse;", 21, 1);
        malformed("scene 1;scene 0;bad", 8, 3);
        RoleDoublingPlanner x = withText("scene 1");
        due("firstError() of an unfinished statement", x.firstError(), 0);
        x.append(';');
        due("firstError() of the finished statement", x.firstError(), NOT_FOUND);
        x.append(' ');
        due("firstError() of a blank behind", x.firstError(), 8);
    }

    private static void reasons() {
        promise = 5;
        malformed(";", 0, 1);
        malformed(" scene 1;", 0, 1);
        malformed("scene 1; role low 0 0;", 8, 1);
        malformed("scene 1;;", 8, 1);
        malformed("Scene 1;", 0, 1);
        malformed("scen 1;", 0, 1);
        malformed("scenes 1;", 0, 1);
        malformed("scene1;", 0, 1);
        malformed("rolE low 0 0;", 0, 1);
        malformed("entex 0 0 0 1;", 0, 1);
        malformed("role bass 1 1;", 0, 1);
        malformed("role lo 1 1;", 0, 1);
        malformed("role lows 1 1;", 0, 1);
        malformed("role hig 1 1;", 0, 1);
        malformed("role kid 1 1;", 0, 1);
        malformed("role  low 1 1;", 0, 1);
        malformed("role ;", 0, 1);
        malformed("role ", 0, 1);
        malformed("role bass x;", 0, 1);
        malformed("role 1", 0, 1);
        malformed("role;", 0, 2);
        malformed("role", 0, 2);
        malformed("role low", 0, 2);
        malformed("role low;", 0, 2);
        malformed("role low 1;", 0, 2);
        malformed("role low 1 1", 0, 2);
        malformed("role low 1 1 ;", 0, 2);
        malformed("role low 1 1 1;", 0, 2);
        malformed("role low x 61;", 0, 2);
        malformed("role low 1  1;", 0, 2);
        malformed("scene", 0, 2);
        malformed("scene;", 0, 2);
        malformed("scene ;", 0, 2);
        malformed("scene  1;", 0, 2);
        malformed("scene 1 ;", 0, 2);
        malformed("scene 1 1;", 0, 2);
        malformed("scene 1", 0, 2);
        malformed("scene 0001;", 0, 2);
        malformed("scene -1;", 0, 2);
        malformed("scene 1:;", 0, 2);
        malformed("scene 1/;", 0, 2);
        malformed("scene 1a;", 0, 2);
        malformed("scene 200", 0, 2);
        malformed("enter 5 5 5;", 0, 2);
        malformed("enter 5 5 5 5", 0, 2);
        malformed("enter 5 5 5 5 5;", 0, 2);
        malformed("enter low 5 5 5;", 0, 2);
        due("errorReason() alone", withText("scene 1;role bass").errorReason(), 1);
        due("errorReason() alone", withText("scene 1;role low").errorReason(), 2);
        outOfRange();
        tooMany();
        endOfText();
    }

    /** Nothing is read behind the end of the text, whatever stood there before. */
    private static void endOfText() {
        String[] texts = {"scene 1;", "scene 1", "scene ", "scene", "scen", ""};
        int[] reasons = {NOT_FOUND, 2, 2, 2, 1, NOT_FOUND};
        RoleDoublingPlanner x = new RoleDoublingPlanner();
        for (int i = 0; i < texts.length; i++) {
            type(x, texts[i]);
            due("errorReason() of \"" + texts[i] + "\"", x.errorReason(), reasons[i]);
            x.clearText();
        }
        // With this before it, a statement of seven signs ends where the text is full.
        String before = times(9, "scene 9;") + "role low 0 0;" + times(20, "enter 0 0 0 9;")
                + times(2, "role high 0 0;");
        malformed(before + "role 6x", 393, 1);
        malformed(before + "role lo", 393, 1);
        malformed(before + "enter 0", 393, 2);
        malformed(before + "scene 9", 393, 2);
        malformed(before + "scene  ", 393, 2);
    }

    private static void outOfRange() {
        malformed("scene 0;", 0, 3);
        malformed("scene 000;", 0, 3);
        malformed("scene 100;", 0, 3);
        malformed("scene 999;", 0, 3);
        malformed("role low 61 0;", 0, 3);
        malformed("role low 0 61;", 0, 3);
        malformed("role child 999 999;", 0, 3);
        malformed("enter 0 0 0 1;scene 9;role low 0 0;", 0, 3);
        malformed("scene 9;enter 0 0 0 1;", 8, 3);
        malformed("role low 0 0;enter 0 0 0 1;", 13, 3);
        String before = "scene 9;scene 7;role low 0 0;role low 0 0;role low 0 0;";
        int place = before.length();
        wellFormed(before + "enter 2 1 6 7;");
        malformed(before + "enter 3 1 6 7;", place, 3);
        malformed(before + "enter 2 2 6 7;", place, 3);
        malformed(before + "enter 2 1 6 8;", place, 3);
        malformed(before + "enter 2 1 7 7;", place, 3);
        malformed(before + "enter 2 1 7 6;", place, 3);
        wellFormed(before + "enter 2 0 8 9;");
    }

    private static void tooMany() {
        String scenes = times(10, "scene 9;");
        malformed(scenes + "scene 9;", 80, 4);
        malformed(scenes + "scene 0;", 80, 3);
        malformed(scenes + "scene x;", 80, 2);
        String roles = times(8, "role low 0 0;");
        malformed(roles + "role low 0 0;", 104, 4);
        malformed(roles + "role low 61 0;", 104, 3);
        malformed(roles + "role bass 0 0;", 104, 1);
        String enters = "scene 9;role low 0 0;" + times(20, "enter 0 0 0 9;");
        malformed(enters + "enter 0 0 0 9;", 301, 4);
        malformed(enters + "enter 0 0 0 10;", 301, 3);
        malformed(enters + "enter 1 0 0 9;", 301, 3);
    }

    private static void configuring() {
        promise = 6;
        RoleDoublingPlanner x = withText("scene 20;scene 9;role low 1 2;role child 60 0;enter 1 1 3 9;");
        x.cast(0, 5);
        due("configure()", x.configure(), 2);
        due("roleCount()", x.roleCount(), 2);
        due("playLength()", x.playLength(), 29);
        due("appearanceCount()", x.appearanceCount(), 1);
        due("onStage(22)", x.onStage(22), 0);
        due("onStage(23)", x.onStage(23), 2);
        due("actorOf(0)", x.actorOf(0), NOT_FOUND);
        due("actorOf(1)", x.actorOf(1), NOT_FOUND);
        due("undo()", x.undo(), NOT_POSSIBLE);
        x.cast(1, 2);
        due("configure() again", x.configure(), 2);
        due("actorOf(1)", x.actorOf(1), NOT_FOUND);
        due("clearText()", x.clearText(), 60);
        configureRefused("");
        configureRefused("scene 5;");
        configureRefused("role low 0 0;");
        configureRefused("scene 5;role low 0 0;enter 0 0 0 6;");
        configureRefused("scene 5;role low 0 0;scene 5");
        due("eight roles", withText("scene 5;" + times(8, "role high 1 1;")).configure(), 8);
    }

    private static void configureRefused(String text) {
        RoleDoublingPlanner x = withText(text);
        x.cast(3, 4);
        String before = portrait(x);
        due("configure() of \"" + text + "\"", x.configure(), NOT_POSSIBLE);
        same("the play after a refused configure", portrait(x), before);
        due("undo() after a refused configure", x.undo(), 0);
        due("clearText() after a refused configure", x.clearText(), text.length());
    }

    private static void adding() {
        promise = 7;
        RoleDoublingPlanner x = playing("scene 10;scene 20;role low 5 5;role low 5 5;role low 0 0;");
        String before = portrait(x);
        due("role -1", x.addAppearance(-1, 0, 0, 1), INVALID);
        due("role 3", x.addAppearance(3, 0, 0, 1), INVALID);
        due("scene -1", x.addAppearance(0, -1, 0, 1), INVALID);
        due("scene 2", x.addAppearance(0, 2, 0, 1), INVALID);
        due("enter -1", x.addAppearance(0, 0, -1, 1), INVALID);
        due("enter = exit", x.addAppearance(0, 0, 4, 4), INVALID);
        due("enter > exit", x.addAppearance(0, 0, 5, 4), INVALID);
        due("exit 11", x.addAppearance(0, 0, 0, 11), INVALID);
        due("extremes", x.addAppearance(MIN, MAX, MIN, MAX), INVALID);
        due("extremes", x.addAppearance(MAX, MIN, MAX, MIN), INVALID);
        same("the play after refusals", portrait(x), before);
        due("undo() after refusals", x.undo(), NOT_POSSIBLE);
        due("first", x.addAppearance(0, 1, 0, 1), 1);
        due("onStage(10)", x.onStage(10), 1);
        due("onStage(11)", x.onStage(11), 0);
        due("whole scene", x.addAppearance(1, 1, 0, 20), 2);
        due("onStage(29)", x.onStage(29), 2);
        for (int n = 3; n <= 20; n++) {
            due("more", x.addAppearance(2, 0, 0, 10), n);
        }
        due("exit 11 of 21", x.addAppearance(2, 0, 0, 11), INVALID);
        due("the 21st", x.addAppearance(2, 0, 0, 10), FULL);
        due("appearanceCount()", x.appearanceCount(), 20);
        due("undo()", x.undo(), 4);
        due("appearanceCount()", x.appearanceCount(), 19);
        addingFreesRoles();
    }

    private static void addingFreesRoles() {
        RoleDoublingPlanner x = playing("scene 60;role low 0 0;role low 0 0;role low 0 0;role low 0 0;"
                + "enter 0 0 0 10;enter 2 0 20 30;enter 3 0 10 20;");
        for (int r = 0; r < 4; r++) {
            due("cast", x.cast(r, 6), r + 1);
        }
        // Role 1 now overlaps 0 and 2: it is freed, and so 2 keeps its actor.
        due("addAppearance(1, 0, 9, 21)", x.addAppearance(1, 0, 9, 21), 4);
        due("rolesOf(6)", x.rolesOf(6), 1 + 4 + 8);
        due("addAppearance(0, 0, 5, 25)", x.addAppearance(0, 0, 5, 25), 5);
        due("rolesOf(6)", x.rolesOf(6), 1);
        due("undo()", x.undo(), 5 - 1);
        due("rolesOf(6)", x.rolesOf(6), 1 + 4 + 8);
        due("undo()", x.undo(), 3);
        due("rolesOf(6)", x.rolesOf(6), 15);
    }

    private static void removing() {
        promise = 8;
        RoleDoublingPlanner x = new RoleDoublingPlanner();
        due("removeAppearance(-1)", x.removeAppearance(-1), INVALID);
        due("removeAppearance(9)", x.removeAppearance(9), INVALID);
        due("removeAppearance(MIN)", x.removeAppearance(MIN), INVALID);
        due("removeAppearance(MAX)", x.removeAppearance(MAX), INVALID);
        due("undo() after refusals", x.undo(), NOT_POSSIBLE);
        due("removeAppearance(1)", x.removeAppearance(1), 8);
        due("onStage(18)", x.onStage(18), 4);
        due("removeAppearance(1), once number 2", x.removeAppearance(1), 7);
        due("onStage(18)", x.onStage(18), 0);
        due("removeAppearance(6), the last", x.removeAppearance(6), 6);
        due("onStage(89)", x.onStage(89), 8);
        due("rolesInScene(2)", x.rolesInScene(2), 2 + 8);
        due("removeAppearance(6)", x.removeAppearance(6), INVALID);
        due("undo()", x.undo(), 2);
        due("undo()", x.undo(), 1);
        due("undo()", x.undo(), 0);
        same("the play after undo", portrait(x), portrait(new RoleDoublingPlanner()));
        for (int left = 8; left >= 0; left--) {
            due("removeAppearance(0)", x.removeAppearance(0), left);
        }
        due("removeAppearance(0) of none", x.removeAppearance(0), INVALID);
        removingEndsConflicts();
    }

    private static void removingEndsConflicts() {
        RoleDoublingPlanner x = playing("scene 60;role low 9 9;role low 9 9;"
                + "enter 0 0 0 10;enter 1 0 5 15;enter 1 0 28 30;");
        due("conflict(0, 1)", x.conflict(0, 1), 2);
        due("cast(1, 3)", x.cast(1, 3), 1);
        due("removeAppearance(1)", x.removeAppearance(1), 2);
        due("conflict(0, 1)", x.conflict(0, 1), 0);
        due("slack(0, 1)", x.slack(0, 1), 0);
        due("actorOf(1) stays", x.actorOf(1), 3);
        due("cast(0, 3)", x.cast(0, 3), 2);
    }

    private static void changeTimes() {
        promise = 9;
        RoleDoublingPlanner x = playing("scene 90;role low 0 0;role low 0 0;role low 0 0;role low 0 0;"
                + "enter 0 0 0 10;enter 1 0 20 30;enter 2 0 50 60;enter 3 0 80 90;");
        due("role -1", x.setChangeTimes(-1, 0, 0), INVALID);
        due("role 4", x.setChangeTimes(4, 0, 0), INVALID);
        due("out -1", x.setChangeTimes(0, -1, 0), INVALID);
        due("out 61", x.setChangeTimes(0, 61, 0), INVALID);
        due("in -1", x.setChangeTimes(0, 0, -1), INVALID);
        due("in 61", x.setChangeTimes(0, 0, 61), INVALID);
        due("extremes", x.setChangeTimes(0, MAX, MIN), INVALID);
        due("undo() after refusals", x.undo(), NOT_POSSIBLE);
        for (int r = 0; r < 4; r++) {
            due("cast", x.cast(r, 0), r + 1);
        }
        due("just enough", x.setChangeTimes(1, 20, 10), 0);
        due("rolesOf(0)", x.rolesOf(0), 15);
        due("too long into 1", x.setChangeTimes(1, 0, 11), 1);
        due("rolesOf(0)", x.rolesOf(0), 13);
        due("undo()", x.undo(), 4);
        due("rolesOf(0)", x.rolesOf(0), 15);
        due("too long out of 1", x.setChangeTimes(1, 21, 0), 1);
        due("the role of the greater number goes", x.rolesOf(0), 11);
        due("undo()", x.undo(), 4);
        due("60 lines out of 0", x.setChangeTimes(0, 60, 60), 2);
        due("rolesOf(0)", x.rolesOf(0), 9);
        due("setChangeTimes that frees none", x.setChangeTimes(0, 60, 60), 0);
        due("slack(0, 2)", x.slack(0, 2), -20);
        due("slack(0, 3)", x.slack(0, 3), 10);
        RoleDoublingPlanner y = new RoleDoublingPlanner();
        due("cast(0, 0)", y.cast(0, 0), 1);
        due("cast(3, 0)", y.cast(3, 0), NOT_POSSIBLE);
        due("setChangeTimes(3, 60, 60)", y.setChangeTimes(3, 60, 60), 0);
        due("actorOf(0)", y.actorOf(0), 0);
        due("actorOf(3)", y.actorOf(3), NOT_FOUND);
    }

    private static void casting() {
        promise = 10;
        RoleDoublingPlanner x = new RoleDoublingPlanner();
        due("role -1", x.cast(-1, 0), INVALID);
        due("role 5", x.cast(5, 0), INVALID);
        due("role MAX", x.cast(MAX, 0), INVALID);
        due("actor -1", x.cast(0, -1), INVALID);
        due("actor 8", x.cast(0, 8), INVALID);
        due("actor MIN", x.cast(0, MIN), INVALID);
        due("undo() after refusals", x.undo(), NOT_POSSIBLE);
        due("cast(2, 7)", x.cast(2, 7), 1);
        due("cast(4, 7)", x.cast(4, 7), 2);
        due("the same again", x.cast(4, 7), 2);
        due("a voice apart", x.cast(0, 7), NOT_POSSIBLE);
        due("actorOf(0)", x.actorOf(0), NOT_FOUND);
        due("another actor", x.cast(4, 0), 1);
        due("rolesOf(7)", x.rolesOf(7), 4);
        due("a quick change, refused", x.cast(0, 0), NOT_POSSIBLE);
        due("refused for a cast role", x.cast(2, 1), 1);
        due("cast(0, 1)", x.cast(0, 1), NOT_POSSIBLE);
        due("rolesOf(1)", x.rolesOf(1), 4);
        due("cast(1, 2)", x.cast(1, 2), 1);
        due("cast(0, 2)", x.cast(0, 2), NOT_POSSIBLE);
        due("cast(3, 2)", x.cast(3, 2), NOT_POSSIBLE);
        due("cast(1, 0)", x.cast(1, 0), NOT_POSSIBLE);
        due("actorOf(1) after the refusal", x.actorOf(1), 2);
        RoleDoublingPlanner y = playing("scene 9;" + times(8, "role child 60 60;"));
        for (int r = 0; r < 8; r++) {
            due("roles without appearances", y.cast(r, 3), r + 1);
        }
        due("rolesOf(3)", y.rolesOf(3), 255);
        due("tightestChange(3) of eight roles", y.tightestChange(3), NOT_FOUND);
        due("setChangeTimes of the last of eight", y.setChangeTimes(7, 1, 1), 0);
    }

    private static void uncasting() {
        promise = 11;
        RoleDoublingPlanner x = new RoleDoublingPlanner();
        due("uncast(-1)", x.uncast(-1), INVALID);
        due("uncast(5)", x.uncast(5), INVALID);
        due("uncast(MIN)", x.uncast(MIN), INVALID);
        due("uncast(0)", x.uncast(0), NOT_POSSIBLE);
        due("undo() after refusals", x.undo(), NOT_POSSIBLE);
        x.cast(0, 0);
        x.cast(1, 7);
        due("uncast(1)", x.uncast(1), 7);
        due("actorOf(1)", x.actorOf(1), NOT_FOUND);
        due("actorOf(0)", x.actorOf(0), 0);
        due("uncast(1) again", x.uncast(1), NOT_POSSIBLE);
        due("uncast(0)", x.uncast(0), 0);
        due("rolesOf(0)", x.rolesOf(0), 0);
        due("undo()", x.undo(), 3);
        due("actorOf(0)", x.actorOf(0), 0);
    }

    private static void adopting() {
        promise = 12;
        RoleDoublingPlanner x = new RoleDoublingPlanner();
        x.cast(0, 7);
        x.cast(2, 0);
        due("adoptFirstCast()", x.adoptFirstCast(), 4);
        int[] first = {0, 1, 2, 3, 2};
        for (int r = 0; r < 5; r++) {
            due("actorOf(" + r + ")", x.actorOf(r), first[r]);
        }
        due("rolesOf(7)", x.rolesOf(7), 0);
        due("adoptFirstCast() again", x.adoptFirstCast(), 4);
        due("undo()", x.undo(), 3);
        due("undo()", x.undo(), 2);
        due("actorOf(0)", x.actorOf(0), 7);
        due("actorOf(2)", x.actorOf(2), 0);
        due("actorOf(4)", x.actorOf(4), NOT_FOUND);
        RoleDoublingPlanner y = eightOnStage();
        due("adoptFirstCast() of eight", y.adoptFirstCast(), 8);
        for (int r = 0; r < 8; r++) {
            due("actorOf(" + r + ")", y.actorOf(r), r);
        }
    }

    private static RoleDoublingPlanner eightOnStage() {
        StringBuilder all = new StringBuilder("scene 9;" + times(8, "role low 0 0;"));
        for (int r = 0; r < 8; r++) {
            all.append("enter ").append(r).append(" 0 ").append(r).append(" 9;");
        }
        return playing(all.toString());
    }

    private static void undoing() {
        promise = 13;
        RoleDoublingPlanner x = new RoleDoublingPlanner();
        due("undo() of none", x.undo(), NOT_POSSIBLE);
        for (int n = 0; n < 8; n++) {
            edit(x, n);
        }
        for (int left = 4; left >= 0; left--) {
            due("undo()", x.undo(), left);
            same("the state before edit " + (left + 3), portrait(x), portraitAfter(left + 3));
        }
        due("undo() of the sixth", x.undo(), NOT_POSSIBLE);
        same("the oldest state", portrait(x), portraitAfter(3));
        x.cast(1, 1);
        due("undo() of the edit after undo", x.undo(), 0);
        same("the oldest state", portrait(x), portraitAfter(3));
        editsBeyondTheFifth();
        undoAndText();
    }

    /** An edit that is out of reach stays so, also when newer ones are undone and made again. */
    private static void editsBeyondTheFifth() {
        RoleDoublingPlanner x = new RoleDoublingPlanner();
        for (int n = 0; n < 7; n++) {
            edit(x, n);
        }
        due("undo() of edit 6", x.undo(), 4);
        due("undo() of edit 5", x.undo(), 3);
        due("an edit after two are undone", x.cast(1, 5), 1);
        for (int left = 3; left >= 0; left--) {
            due("undo()", x.undo(), left);
            same("the state before edit " + (left + 2), portrait(x), portraitAfter(left + 2));
        }
        due("undo() of an edit out of reach", x.undo(), NOT_POSSIBLE);
    }

    private static String portraitAfter(int edits) {
        RoleDoublingPlanner x = new RoleDoublingPlanner();
        for (int n = 0; n < edits; n++) {
            edit(x, n);
        }
        return portrait(x);
    }

    private static void edit(RoleDoublingPlanner x, int n) {
        switch (n) {
            case 0: due("edit 0", x.cast(0, 3), 1); break;
            case 1: due("edit 1", x.cast(0, 3), 1); break;
            case 2: due("edit 2", x.removeAppearance(4), 8); break;
            case 3: due("edit 3", x.addAppearance(4, 2, 0, 40), 9); break;
            case 4: due("edit 4", x.adoptFirstCast(), 4); break;
            case 5: due("edit 5", x.setChangeTimes(1, 1, 2), 0); break;
            case 6: due("edit 6", x.uncast(0), 0); break;
            default: due("edit 7", x.setChangeTimes(1, 60, 60), 0); break;
        }
    }

    private static void undoAndText() {
        RoleDoublingPlanner x = new RoleDoublingPlanner();
        type(x, "scene 9;role low 0 0;");
        x.cast(0, 1);
        x.append('x');
        due("undo()", x.undo(), 0);
        due("the text is not affected", x.clearText(), 22);
        type(x, "scene 9;role low 0 0;");
        x.cast(0, 1);
        x.configure();
        due("undo() after configure", x.undo(), NOT_POSSIBLE);
        x.cast(0, 1);
        x.undo();
        due("roleCount()", x.roleCount(), 1);
    }

    private static void counts() {
        promise = 14;
        due("roleCount()", new RoleDoublingPlanner().roleCount(), 5);
        due("roleCount()", playing("scene 1;role low 0 0;").roleCount(), 1);
        due("roleCount()", playing("scene 1;" + times(8, "role low 0 0;")).roleCount(), 8);
        promise = 15;
        due("appearanceCount()", new RoleDoublingPlanner().appearanceCount(), 9);
        due("appearanceCount()", playing("scene 1;role low 0 0;").appearanceCount(), 0);
        RoleDoublingPlanner x = playing("scene 9;role low 0 0;" + times(20, "enter 0 0 0 9;"));
        due("appearanceCount()", x.appearanceCount(), 20);
        x.removeAppearance(5);
        due("appearanceCount()", x.appearanceCount(), 19);
        promise = 16;
        due("playLength()", new RoleDoublingPlanner().playLength(), 90);
        due("playLength()", playing("scene 1;role low 0 0;").playLength(), 1);
        due("playLength()", playing(times(10, "scene 99;") + "role low 0 0;").playLength(), 990);
    }

    private static void stage() {
        promise = 17;
        RoleDoublingPlanner x = new RoleDoublingPlanner();
        due("onStage(-1)", x.onStage(-1), INVALID);
        due("onStage(90)", x.onStage(90), INVALID);
        due("onStage(MIN)", x.onStage(MIN), INVALID);
        due("onStage(MAX)", x.onStage(MAX), INVALID);
        due("onStage(0)", x.onStage(0), 1);
        due("onStage(4)", x.onStage(4), 1);
        due("onStage(5)", x.onStage(5), 5);
        due("onStage(11)", x.onStage(11), 5);
        due("onStage(12)", x.onStage(12), 4);
        due("onStage(30)", x.onStage(30), 8);
        due("onStage(49)", x.onStage(49), 17);
        due("onStage(50)", x.onStage(50), 0);
        due("onStage(89)", x.onStage(89), 12);
        x.addAppearance(3, 2, 35, 40);
        due("one role twice at a time", x.onStage(89), 12);
        promise = 18;
        due("peak()", x.peak(), 2);
        x.addAppearance(1, 2, 39, 40);
        due("peak() in the last line", x.peak(), 3);
        due("peak() of no appearances", playing("scene 1;role low 0 0;").peak(), 0);
        due("peak() of one role twice",
                playing("scene 9;role low 0 0;enter 0 0 0 5;enter 0 0 2 9;").peak(), 1);
        due("peak() of roles one after the other",
                playing("scene 9;role low 0 0;role low 0 0;enter 1 0 5 9;enter 0 0 0 5;").peak(), 1);
        due("peak() of all", eightOnStage().peak(), 8);
        due("peak() where the first appearance enters",
                playing("scene 9;role low 0 0;role low 0 0;enter 0 0 4 9;enter 1 0 3 9;").peak(), 2);
        due("peak() of 20 appearances",
                playing("scene 9;role low 0 0;" + times(20, "enter 0 0 0 9;")).peak(), 1);
        promise = 19;
        RoleDoublingPlanner y = new RoleDoublingPlanner();
        due("rolesInScene(-1)", y.rolesInScene(-1), INVALID);
        due("rolesInScene(3)", y.rolesInScene(3), INVALID);
        due("rolesInScene(MIN)", y.rolesInScene(MIN), INVALID);
        due("rolesInScene(MAX)", y.rolesInScene(MAX), INVALID);
        due("rolesInScene(0)", y.rolesInScene(0), 7);
        due("rolesInScene(1)", y.rolesInScene(1), 25);
        due("rolesInScene(2)", y.rolesInScene(2), 14);
        due("an empty scene",
                playing("scene 1;scene 1;role low 0 0;enter 0 0 0 1;").rolesInScene(1), 0);
    }

    private static void conflicts() {
        promise = 20;
        RoleDoublingPlanner x = playing("scene 50;scene 50;"
                + "role low 4 3;role low 2 6;role high 0 0;role low 0 0;role low 60 60;"
                + "enter 0 0 10 20;enter 1 0 30 40;enter 3 0 19 25;enter 2 1 0 9;");
        due("conflict(-1, 0)", x.conflict(-1, 0), INVALID);
        due("conflict(0, -1)", x.conflict(0, -1), INVALID);
        due("conflict(5, 0)", x.conflict(5, 0), INVALID);
        due("conflict(0, 5)", x.conflict(0, 5), INVALID);
        due("conflict(MIN, MAX)", x.conflict(MIN, MAX), INVALID);
        due("conflict(4, 4)", x.conflict(4, 4), INVALID);
        due("a change in just the time", x.conflict(0, 1), 0);
        due("an overlap of one line", x.conflict(0, 3), 2);
        due("the same, turned", x.conflict(3, 0), 2);
        due("voices", x.conflict(0, 2), 1);
        due("voices without appearance", x.conflict(2, 4), 1);
        due("no appearance", x.conflict(0, 4), 0);
        due("a change", x.conflict(3, 1), 3);
        due("the same, turned", x.conflict(1, 3), 3);
        x.setChangeTimes(3, 0, 1);
        due("a change from 3 to 1 in 5 lines", x.conflict(3, 1), 3);
        x.setChangeTimes(1, 60, 5);
        due("only the way of the play counts", x.conflict(3, 1), 0);
        x.addAppearance(3, 1, 49, 50);
        due("59 lines for 61", x.conflict(1, 3), 3);
        touching();
    }

    private static void touching() {
        RoleDoublingPlanner x = playing("scene 9;scene 9;role low 0 0;role low 0 0;"
                + "enter 0 0 0 9;enter 1 1 0 9;");
        due("touching roles without change times", x.conflict(0, 1), 0);
        due("slack of touching roles", x.slack(1, 0), 0);
        x.setChangeTimes(0, 1, 0);
        due("touching roles with a change time", x.conflict(1, 0), 3);
        RoleDoublingPlanner y = new RoleDoublingPlanner();
        promise = 21;
        due("conflictCount()", y.conflictCount(), 9);
        due("conflictCount()", x.conflictCount(), 1);
        due("conflictCount() of one role", playing("scene 1;role low 0 0;").conflictCount(), 0);
        due("conflictCount() of voices", playing("scene 1;" + times(3, "role low 0 0;")
                + times(3, "role high 0 0;") + times(2, "role child 0 0;")).conflictCount(), 21);
    }

    private static void slacks() {
        promise = 22;
        RoleDoublingPlanner x = new RoleDoublingPlanner();
        due("slack(-1, 0)", x.slack(-1, 0), INVALID);
        due("slack(0, -1)", x.slack(0, -1), INVALID);
        due("slack(5, 0)", x.slack(5, 0), INVALID);
        due("slack(0, 5)", x.slack(0, 5), INVALID);
        due("slack(MAX, MIN)", x.slack(MAX, MIN), INVALID);
        due("slack(0, 0)", x.slack(0, 0), INVALID);
        due("slack(0, 1)", x.slack(0, 1), -8);
        due("slack(1, 0)", x.slack(1, 0), -8);
        due("slack(2, 4) of one voice", x.slack(2, 4), 2);
        due("slack(1, 4) of two voices", x.slack(1, 4), -7);
        due("slack(0, 2), an overlap", x.slack(0, 2), NOT_POSSIBLE);
        due("slack(2, 0)", x.slack(2, 0), NOT_POSSIBLE);
        x.addAppearance(2, 2, 29, 30);
        due("an overlap stays with more appearances", x.slack(0, 2), NOT_POSSIBLE);
        RoleDoublingPlanner y = playing("scene 99;scene 99;role low 10 20;role high 3 4;role low 0 0;"
                + "enter 0 0 0 9;enter 1 1 0 9;");
        due("slack(0, 1)", y.slack(0, 1), 90 - 14);
        due("slack(2, 0) without appearance", y.slack(2, 0), NOT_FOUND);
        due("slack(1, 2) without appearance", y.slack(1, 2), NOT_FOUND);
        y.addAppearance(0, 1, 99 - 9, 99);
        due("the tighter change, back", y.slack(0, 1), 81 - 23);
        y.addAppearance(0, 0, 90, 99);
        due("the tightest", y.slack(1, 0), -14);
        y.addAppearance(1, 1, 98, 99);
        due("overlap", y.slack(1, 0), NOT_POSSIBLE);
        y.setChangeTimes(0, 60, 0);
        y.undo();
        y.undo();
        due("after undo", y.slack(1, 0), -14);
    }

    private static void actors() {
        promise = 23;
        RoleDoublingPlanner x = new RoleDoublingPlanner();
        due("actorOf(-1)", x.actorOf(-1), INVALID);
        due("actorOf(5)", x.actorOf(5), INVALID);
        due("actorOf(MIN)", x.actorOf(MIN), INVALID);
        due("actorOf(MAX)", x.actorOf(MAX), INVALID);
        due("actorOf(4)", x.actorOf(4), NOT_FOUND);
        x.cast(4, 0);
        x.cast(3, 7);
        due("actorOf(4)", x.actorOf(4), 0);
        due("actorOf(3)", x.actorOf(3), 7);
        promise = 24;
        due("rolesOf(-1)", x.rolesOf(-1), INVALID);
        due("rolesOf(8)", x.rolesOf(8), INVALID);
        due("rolesOf(MIN)", x.rolesOf(MIN), INVALID);
        due("rolesOf(MAX)", x.rolesOf(MAX), INVALID);
        due("rolesOf(0)", x.rolesOf(0), 16);
        due("rolesOf(7)", x.rolesOf(7), 8);
        due("rolesOf(5)", x.rolesOf(5), 0);
        x.cast(2, 0);
        due("rolesOf(0)", x.rolesOf(0), 20);
        promise = 25;
        due("tightestChange(-1)", x.tightestChange(-1), INVALID);
        due("tightestChange(8)", x.tightestChange(8), INVALID);
        due("tightestChange(MIN)", x.tightestChange(MIN), INVALID);
        due("tightestChange(MAX)", x.tightestChange(MAX), INVALID);
        due("tightestChange(0)", x.tightestChange(0), 2);
        due("tightestChange(7) of one role", x.tightestChange(7), NOT_FOUND);
        due("tightestChange(1) of none", x.tightestChange(1), NOT_FOUND);
        RoleDoublingPlanner y = playing("scene 99;" + times(5, "role low 1 2;")
                + "enter 0 0 0 9;enter 2 0 30 40;enter 3 0 90 99;enter 4 0 50 60;");
        y.cast(1, 7);
        y.cast(0, 7);
        due("one of two has no appearance", y.tightestChange(7), NOT_FOUND);
        y.cast(3, 7);
        due("the widest", y.tightestChange(7), 78);
        y.cast(2, 7);
        due("the tighter one of three", y.tightestChange(7), 18);
        y.cast(4, 6);
        due("another actor's role does not count", y.tightestChange(7), 18);
        y.cast(4, 7);
        due("the tightest of four", y.tightestChange(7), 7);
    }

    /** A ring of five roles of one voice: its cliques have 2 roles, but it takes 3 actors. */
    private static final String RING = "scene 90;" + "role low 0 0;".repeat(5)
            + "enter 0 0 0 2;enter 2 0 1 3;enter 2 0 10 12;enter 4 0 11 13;enter 4 0 20 22;"
            + "enter 1 0 21 23;enter 1 0 30 32;enter 3 0 31 33;enter 3 0 40 42;enter 0 0 41 43;";

    /** Roles 0 to 5 where 0 meets 3 and 5, 2 meets 1 and 5, 4 meets 1 and 3: the greedy way costs one more. */
    private static final String CROWN = "scene 90;" + "role low 0 0;".repeat(6)
            + "enter 0 0 0 2;enter 3 0 1 3;enter 0 0 10 12;enter 5 0 11 13;enter 2 0 20 22;"
            + "enter 1 0 21 23;enter 2 0 30 32;enter 5 0 31 33;enter 4 0 40 42;enter 1 0 41 43;"
            + "enter 4 0 50 52;enter 3 0 51 53;";

    private static void leastCasts() {
        promise = 26;
        due("cliqueNumber()", new RoleDoublingPlanner().cliqueNumber(), 4);
        due("cliqueNumber() of one role", playing("scene 1;role low 0 0;").cliqueNumber(), 1);
        due("cliqueNumber() of free roles",
                playing("scene 1;" + times(8, "role low 0 0;")).cliqueNumber(), 1);
        due("cliqueNumber() of a ring", playing(RING).cliqueNumber(), 2);
        due("cliqueNumber() of three voices",
                playing("scene 1;role low 0 0;role child 0 0;role high 0 0;").cliqueNumber(), 3);
        RoleDoublingPlanner full = eightOnStage();
        due("cliqueNumber() of all", full.cliqueNumber(), 8);
        promise = 27;
        due("leastCast()", new RoleDoublingPlanner().leastCast(), 4);
        due("leastCast() of one role", playing("scene 1;role low 0 0;").leastCast(), 1);
        due("leastCast() of free roles",
                playing("scene 1;" + times(8, "role low 0 0;")).leastCast(), 1);
        due("leastCast() of a ring", playing(RING).leastCast(), 3);
        due("leastCast() of a crown", playing(CROWN).leastCast(), 2);
        due("leastCast() of all", full.leastCast(), 8);
        promise = 28;
        firstActors(new RoleDoublingPlanner(), 0, 1, 2, 3, 2);
        firstActors(full, 0, 1, 2, 3, 4, 5, 6, 7);
        firstActors(playing(RING), 0, 0, 1, 1, 2);
        firstActors(playing(CROWN), 0, 1, 0, 1, 0, 1);
        promise = 29;
        due("greedyCast()", new RoleDoublingPlanner().greedyCast(), 4);
        due("greedyCast() of one role", playing("scene 1;role low 0 0;").greedyCast(), 1);
        due("greedyCast() of a ring", playing(RING).greedyCast(), 3);
        due("greedyCast() of all", full.greedyCast(), 8);
        due("greedyCast() of a crown", playing(CROWN).greedyCast(), 3);
        askedAgain();
    }

    /** An answer does not depend on what was asked before, nor on an earlier play. */
    private static void askedAgain() {
        RoleDoublingPlanner x = playing(CROWN);
        for (int i = 0; i < 2; i++) {
            due("leastCast() again", x.leastCast(), 2);
            due("greedyCast() again", x.greedyCast(), 3);
            due("cliqueNumber() again", x.cliqueNumber(), 2);
            due("firstCastActor(5) again", x.firstCastActor(5), 1);
        }
        RoleDoublingPlanner y = new RoleDoublingPlanner();
        due("leastCast()", y.leastCast(), 4);
        type(y, "scene 1;" + times(4, "role low 0 0;"));
        due("configure()", y.configure(), 4);
        due("leastCast() of the smaller play", y.leastCast(), 1);
        due("greedyCast() of the smaller play", y.greedyCast(), 1);
        due("cliqueNumber() of the smaller play", y.cliqueNumber(), 1);
        due("conflictCount() of the smaller play", y.conflictCount(), 0);
        due("rolesOf(0) of the smaller play", y.rolesOf(0), 0);
    }

    private static void firstActors(RoleDoublingPlanner x, int... actors) {
        due("firstCastActor(-1)", x.firstCastActor(-1), INVALID);
        due("firstCastActor behind the last", x.firstCastActor(actors.length), INVALID);
        due("firstCastActor(MIN)", x.firstCastActor(MIN), INVALID);
        due("firstCastActor(MAX)", x.firstCastActor(MAX), INVALID);
        String before = portrait(x);
        for (int r = 0; r < actors.length; r++) {
            due("firstCastActor(" + r + ")", x.firstCastActor(r), actors[r]);
        }
        same("the play after firstCastActor", portrait(x), before);
    }

    private static void faster() {
        promise = 30;
        RoleDoublingPlanner x = new RoleDoublingPlanner();
        x.cast(0, 2);
        String before = portrait(x);
        due("leastCastIfFaster(-1)", x.leastCastIfFaster(-1), INVALID);
        due("leastCastIfFaster(121)", x.leastCastIfFaster(121), INVALID);
        due("leastCastIfFaster(MIN)", x.leastCastIfFaster(MIN), INVALID);
        due("leastCastIfFaster(MAX)", x.leastCastIfFaster(MAX), INVALID);
        due("leastCastIfFaster(0)", x.leastCastIfFaster(0), 4);
        due("leastCastIfFaster(1)", x.leastCastIfFaster(1), 4);
        due("leastCastIfFaster(2)", x.leastCastIfFaster(2), 3);
        due("leastCastIfFaster(7)", x.leastCastIfFaster(7), 3);
        due("leastCastIfFaster(8)", x.leastCastIfFaster(8), 2);
        due("leastCastIfFaster(120)", x.leastCastIfFaster(120), 2);
        same("nothing changes by this", portrait(x), before);
        due("undo()", x.undo(), 0);
        RoleDoublingPlanner touch = playing("scene 9;role low 60 0;role low 0 60;"
                + "enter 0 0 0 4;enter 1 0 4 9;");
        due("leastCastIfFaster(119)", touch.leastCastIfFaster(119), 2);
        due("leastCastIfFaster(120)", touch.leastCastIfFaster(120), 1);
        promise = 31;
        due("speedUpFor(0)", x.speedUpFor(0), INVALID);
        due("speedUpFor(9)", x.speedUpFor(9), INVALID);
        due("speedUpFor(MIN)", x.speedUpFor(MIN), INVALID);
        due("speedUpFor(MAX)", x.speedUpFor(MAX), INVALID);
        due("speedUpFor(1)", x.speedUpFor(1), NOT_FOUND);
        due("speedUpFor(2)", x.speedUpFor(2), 8);
        due("speedUpFor(3)", x.speedUpFor(3), 2);
        due("speedUpFor(4)", x.speedUpFor(4), 0);
        due("speedUpFor(8)", x.speedUpFor(8), 0);
        due("speedUpFor(1), the greatest", touch.speedUpFor(1), 120);
        due("speedUpFor(2)", touch.speedUpFor(2), 0);
        due("speedUpFor(1) of one role", playing("scene 1;role low 0 0;").speedUpFor(1), 0);
        RoleDoublingPlanner overlap = playing("scene 9;role low 0 0;role low 0 0;"
                + "enter 0 0 0 5;enter 1 0 4 9;");
        due("speedUpFor(1) of an overlap", overlap.speedUpFor(1), NOT_FOUND);
        for (int change = 0; change <= 60; change++) {
            touch.setChangeTimes(0, change, 0);
            due("speedUpFor(1)", touch.speedUpFor(1), change + 60);
        }
    }

    public static void main(String[] args) {
        newObject();
        appending();
        clearing();
        errors();
        reasons();
        configuring();
        adding();
        removing();
        changeTimes();
        casting();
        uncasting();
        adopting();
        undoing();
        counts();
        stage();
        conflicts();
        slacks();
        actors();
        leastCasts();
        faster();
        System.out.println(wrong == 0 ? "all answers are as due" : wrong + " answers are not as due");
        if (wrong != 0) {
            System.exit(1);
        }
    }
}

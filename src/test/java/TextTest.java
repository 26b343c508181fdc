/** Promises 1 to 5: a new object and its text. */
public final class TextTest {
    private static final Checks T = new Checks("TextTest");

    public static void main(String[] args) {
        newObject();
        append();
        clearText();
        errorPosition();
        errorPositionOfDigits();
        errorPositionOfEnds();
        load();
        loadLeavesOut();
        loadMakesNew();
        T.end();
    }

    private static void newObject() {
        StandIns x = new StandIns();
        for (int what = 0; what <= 7; what++) {
            int w = what;
            T.due("1: about(" + w + ")", 0, () -> x.about(w));
        }
        int[] settings = {5, 10, 2, 5, 15};
        for (int what = 0; what <= 4; what++) {
            int w = what;
            T.due("1: setting(" + w + ")", settings[w], () -> x.setting(w));
        }
        T.outOfBounds("1: role(0, 0)", () -> x.role(0, 0));
        T.outOfBounds("1: player(0, 0)", () -> x.player(0, 0));
        T.badState("1: undo()", x::undo);
        T.badState("1: restore(0)", () -> x.restore(0));
        T.badState("1: restore(1)", () -> x.restore(1));
        T.due("1: clearText()", 0, x::clearText);
        T.due("1: NONE", -1, () -> StandIns.NONE);
        x.addRole(3);
        T.due("1: another object has no roles", 0, () -> new StandIns().about(0));
    }

    private static void append() {
        StandIns x = new StandIns();
        T.badArgument("2: append(-1)", () -> x.append(-1));
        T.badArgument("2: append(256)", () -> x.append(256));
        T.badArgument("2: append(least)", () -> x.append(Integer.MIN_VALUE));
        T.badArgument("2: append(greatest)", () -> x.append(Integer.MAX_VALUE));
        T.due("2: append(0)", 1, () -> x.append(0));
        T.due("2: append(255)", 2, () -> x.append(255));
        for (int n = 3; n <= 120; n++) {
            T.due("2: append as number " + n, n, () -> x.append('H'));
        }
        T.badState("2: append to a full text", () -> x.append('H'));
        T.badArgument("2: append(256) to a full text", () -> x.append(256));
        T.due("2: nothing was appended", 120, x::clearText);
        T.due("2: append to an emptied text", 1, () -> x.append('H'));
        T.due("2: no action", 0, () -> depth(x));
    }

    private static void clearText() {
        StandIns x = new StandIns();
        Checks.put(x, "Hr9");
        x.load();
        x.addPlayer();
        T.due("3: clearText()", 3, x::clearText);
        T.due("3: clearText() of none", 0, x::clearText);
        T.due("3: errorPosition()", 0, x::errorPosition);
        T.due("3: the roles stay", 1, () -> x.about(0));
        T.due("3: the remembered states stay", 0, x::undo);
    }

    private static void error(String text, int want) {
        StandIns x = new StandIns();
        Checks.put(x, text);
        T.due("4: errorPosition() of \"" + text + "\"", want, x::errorPosition);
        T.due("4: it keeps \"" + text + "\"", text.length(), x::clearText);
    }

    private static void errorPosition() {
        error("", 0);
        error("h", 0);
        error("rH", 0);
        error("H", -1);
        error("HH", 1);
        error("H ", 1);
        error("Hx", 1);
        error("HP", 1);
        error("Hp", -1);
        error("Hg", -1);
        error("Hgp0", 3);
        error("Hg p", 2);
        error("H0", 1);
        error("Hr", 2);
        error("Hrr", 2);
        error("Hy", 2);
        error("Hy0", 3);
        error("Hy00", 4);
        error("Hy000", -1);
        error("Hf", 2);
        error("Hf0", 3);
        error("Hf00", -1);
        error("Ha", 2);
        error("Ha0", 3);
        error("Ha01", -1);
        error("Hd", 2);
        error("Hd1", -1);
        error("Hy6", 3);
        error("Hyx", 2);
        error("Hr5r2pppy005f00a19d9gg", -1);
        error("Hr5r2pppy005f00a19d9gg\u0000", 22);
        error("Hr5r2pppy005f00a19d9gg\u00ff", 22);
    }

    private static void errorPositionOfEnds() {
        String full = "H" + "p".repeat(118);
        error(full + "p", -1);
        error(full + "r", 120);
        error(full + "x", 119);
        error(full.substring(2) + "y0", 0);
        error("H" + full.substring(2) + "y0", 120);
        StandIns x = new StandIns();
        Checks.put(x, "Hy000");
        x.clearText();
        Checks.put(x, "Hy0");
        T.due("4: what was cleared does not count", 3, x::errorPosition);
    }

    /** Every digit at every place where one may stand, and the signs right outside of the digits. */
    private static void errorPositionOfDigits() {
        digits("Hr", "", '1', '9');
        digits("Hd", "", '1', '9');
        digits("Hy", "00", '0', '9');
        digits("Hy0", "0", '0', '5');
        digits("Hy00", "", '0', '9');
        digits("Hf", "0", '0', '5');
        digits("Hf0", "", '0', '9');
        digits("Ha", "1", '0', '9');
        digits("Ha0", "", '1', '9');
    }

    private static void digits(String ahead, String behind, char least, char greatest) {
        for (char c = '0' - 1; c <= '9' + 1; c++) {
            error(ahead + c + behind, c >= least && c <= greatest ? -1 : ahead.length());
        }
    }

    private static void load() {
        StandIns x = new StandIns();
        T.badState("5: load() without a text", x::load);
        Checks.put(x, "Hr5r2ppy109f11a02d3g");
        T.due("5: load()", 0, x::load);
        T.due("5: the roles", 2, () -> x.about(0));
        T.due("5: the players", 2, () -> x.about(1));
        T.due("5: the weight of 0", 5, () -> x.role(0, 0));
        T.due("5: the weight of 1", 2, () -> x.role(1, 0));
        T.due("5: y109 is for the player 1 and the role 0", 9, () -> x.both(1, 0, 0));
        T.due("5: and not for the player 0 and the role 1", 0, () -> x.both(0, 1, 0));
        T.due("5: f11", 1, () -> x.role(1, 1));
        T.due("5: today", 4, () -> x.about(2));
        T.due("5: called off", 1, () -> x.about(4));
        T.due("5: a02 is over", 0, () -> x.player(0, 2));
        T.badState("5: nothing is remembered", x::undo);
        T.due("5: the text is kept", 20, x::clearText);

        StandIns y = Checks.house("Hr1r2pppf02");
        T.due("5: f02 is for the role 0 and the player 2", 2, () -> y.role(0, 1));
        StandIns z = Checks.house("Hppa19");
        T.due("5: a19 is for the player 1", 9, () -> z.player(1, 2));
    }

    private static void leftOut(String text, int want) {
        StandIns x = new StandIns();
        Checks.put(x, text);
        T.due("5: load() of " + text, want, x::load);
    }

    private static void loadLeavesOut() {
        leftOut("H", 0);
        leftOut("Hg", 1);
        leftOut("Hr1g", 0);
        leftOut("Hgr1gg", 1);
        leftOut("Hr1r1r1r1r1r1", 0);
        leftOut("Hr1r1r1r1r1r1r1r1", 2);
        leftOut("Hpppppppppp", 0);
        leftOut("Hppppppppppppp", 3);
        leftOut("Hy000", 1);
        leftOut("Hr1y000", 1);
        leftOut("Hpy000", 1);
        leftOut("Hr1py000", 0);
        leftOut("Hr1py010y100", 2);
        leftOut("Hf00", 1);
        leftOut("Hr1f00", 1);
        leftOut("Hpf00", 1);
        leftOut("Hr1pf00f10f01", 2);
        leftOut("Ha01", 1);
        leftOut("Hpa01a11", 1);
        leftOut("Hd1d9", 0);
        StandIns x = new StandIns();
        Checks.put(x, "Hy001r4pf10");
        T.due("5: two are left out", 2, x::load);
        T.due("5: what is left out is not done later", 0, () -> x.both(0, 0, 0));
        T.due("5: nor is it done elsewhere", -1, () -> x.role(0, 1));
    }

    private static void loadMakesNew() {
        StandIns x = new StandIns();
        x.addRole(4);
        x.addPlayer();
        x.play();
        x.ready(0, 0, 7);
        x.play();
        x.first(0, 0);
        x.play();
        for (int what = 0; what <= 4; what++) {
            x.set(what, 3);
        }
        x.post();
        x.save(0);
        x.save(1);
        T.badState("5: load() of no house", x::load);
        T.due("5: a refused load keeps the states", 12, () -> {
            x.addPlayer();
            x.undo();
            return x.undo();
        });
        T.due("5: a refused load keeps the slots", 3, () -> x.restore(0));
        x.addPlayer();
        x.away(0, 9);
        Checks.put(x, "Hr6p");
        T.due("5: load()", 0, x::load);
        T.same("5: all is as in a new object", Snapshot.of(Checks.house("Hr6p")), Snapshot.of(x));
        T.badState("5: no state is remembered", x::undo);
        T.badState("5: the slot 0 is empty", () -> x.restore(0));
        T.badState("5: the slot 1 is empty", () -> x.restore(1));
        x.ready(0, 0, 5);
        T.due("5: load() again", 0, x::load);
        T.due("5: and all is new again", 0, () -> x.both(0, 0, 0));
    }

    private static int depth(StandIns x) {
        for (int n = 0; n < 20; n++) {
            try {
                x.undo();
            } catch (IllegalStateException e) {
                return n;
            }
        }
        return 20;
    }
}

/** The sentences of "Terms" on texts, and promises 1 to 5. */
final class TextEdges extends Edges {
    private static final String FULL = "H" + "p".repeat(119);

    TextEdges(Tally tally) {
        super(tally);
    }

    @Override
    void all() {
        none();
        newObject();
        mostCharacters();
        commands();
        addRoleCommand();
        addPlayerCommand();
        readyCommand();
        firstCommand();
        awayCommand();
        darkCommand();
        playCommand();
        leftOutCommands();
        noBlanks();
        leftToRight();
        errorPosition();
        textTooShort();
        textCalls();
        append();
        appendCodes();
        appendLength();
        appendOutOfRange();
        appendToFull();
        clearText();
        clearTextLength();
        checksTheText();
        loadMakesNew();
        loadForgets();
        loadKeepsTheText();
        loadLeavesOut();
        loadNoHouse();
    }

    private void none() {
        sentence("Terms", "The constants: NONE = -1: There is no such result.");
        due("NONE", -1, fresh(), x -> StandIns.NONE);
        due("no first player", StandIns.NONE, house("Hr1"), x -> x.role(0, 1));
    }

    private void newObject() {
        sentence("1", "Creates a house without roles and players.");
        for (int what = 0; what <= 7; what++) {
            int w = what;
            due("about(" + w + ")", 0, fresh(), x -> x.about(w));
        }
        refused("role(0, 0)", BOUNDS, fresh(), x -> x.role(0, 0));
        refused("player(0, 0)", BOUNDS, fresh(), x -> x.player(0, 0));
        refused("both(0, 0, 0)", BOUNDS, fresh(), x -> x.both(0, 0, 0));
        refused("undo()", STATE, fresh(), StandIns::undo);
        refused("restore(0)", STATE, fresh(), x -> x.restore(0));
        refused("restore(1)", STATE, fresh(), x -> x.restore(1));
        due("clearText()", 0, fresh(), StandIns::clearText);
        due("strength()", 0, fresh(), StandIns::strength);
        due("the first role", 0, fresh(), x -> x.addRole(1));
        due("the first player", 0, fresh(), StandIns::addPlayer);
        same("a new object is no other one", fresh(), fresh().then(x -> busy().make()));
    }

    private void mostCharacters() {
        sentence("Terms", "The object has a text buffer of at most 120 characters.");
        due("the character 120", 120, text(FULL.substring(0, 119)), x -> x.append('p'));
        refused("the character 121", STATE, text(FULL), x -> x.append('p'));
        due("all of them count", 109, text(FULL), StandIns::load);
    }

    private void error(String text, int want) {
        due("errorPosition() of " + text, want, text(text), StandIns::errorPosition);
    }

    /** Tries every character behind a text: some make a house of it, some begin what is not complete, all others are errors. */
    private void everyCharacterBehind(String text, String complete, String begun) {
        for (char c = 0; c <= 255; c++) {
            int otherwise = begun.indexOf(c) >= 0 ? text.length() + 1 : text.length();
            error(text + c, complete.indexOf(c) >= 0 ? NONE : otherwise);
        }
    }

    private void commands() {
        sentence("Terms", "A house is the letter H, and then any number of commands:");
        error("", 0);
        everyCharacterBehind("", "H", "");
        error("H", NONE);
        due("load() of no command", 0, text("H"), StandIns::load);
        everyCharacterBehind("H", "pg", "ryfad");
        for (int n = 1; n <= 119; n++) {
            error(FULL.substring(0, n + 1), NONE);
            error("H" + "g".repeat(n), NONE);
        }
        error("HH", 1);
        error("HpH", 2);
        error("pH", 0);
    }

    private void addRoleCommand() {
        sentence("Terms", "r and a digit (1 to 9): addRole();");
        everyCharacterBehind("Hr", "123456789", "");
        for (int weight = 1; weight <= 9; weight++) {
            Recipe recipe = house("Hr" + weight);
            due("the weight", weight, recipe, x -> x.role(0, 0));
            due("one role", 1, recipe, x -> x.about(0));
        }
        error("Hr11", 3);
    }

    private void addPlayerCommand() {
        sentence("Terms", "p: addPlayer();");
        everyCharacterBehind("Hpp", "pg", "ryfad");
        for (int n = 0; n <= 10; n++) {
            due(n + " players", n, house("H" + "p".repeat(n)), x -> x.about(1));
        }
        error("Hp0", 2);
    }

    private void readyCommand() {
        sentence("Terms", "y, a digit for a player (0 to 9), one for a role (0 to 5), and one for the degree: ready();");
        everyCharacterBehind("Hy", "", "0123456789");
        everyCharacterBehind("Hy0", "", "012345");
        everyCharacterBehind("Hy00", "0123456789", "");
        error("Hy959", NONE);
        error("Hy960", 3);
        error("Hy0000", 5);
        Recipe recipe = house("Hr1r1r1r1r1r1ppppppppppy959y003y908y054");
        due("the last player and role", 9, recipe, x -> x.both(9, 5, 0));
        due("the first ones", 3, recipe, x -> x.both(0, 0, 0));
        due("the last player, the first role", 8, recipe, x -> x.both(9, 0, 0));
        due("the first player, the last role", 4, recipe, x -> x.both(0, 5, 0));
        due("the degree 0", 0, house("Hr1py009y000"), x -> x.both(0, 0, 0));
    }

    private void firstCommand() {
        sentence("Terms", "f, a digit for a role (0 to 5) and one for a player: first();");
        everyCharacterBehind("Hf", "", "012345");
        everyCharacterBehind("Hf0", "0123456789", "");
        error("Hf59", NONE);
        error("Hf60", 2);
        error("Hf000", 4);
        Recipe recipe = house("Hr1r1r1r1r1r1ppppppppppf59f00");
        due("the last role and player", 9, recipe, x -> x.role(5, 1));
        due("the first ones", 0, recipe, x -> x.role(0, 1));
        due("another role", NONE, recipe, x -> x.role(1, 1));
    }

    private void awayCommand() {
        sentence("Terms", "a, a digit for a player and one for days (1 to 9): away();");
        everyCharacterBehind("Ha", "", "0123456789");
        everyCharacterBehind("Ha0", "123456789", "");
        error("Ha99", NONE);
        error("Ha90", 3);
        error("Ha011", 4);
        Recipe recipe = house("Hppppppppppa99a01");
        due("the last player, nine days", 9, recipe, x -> x.player(9, 2));
        due("the first player, a day", 1, recipe, x -> x.player(0, 2));
        due("another player", 0, recipe, x -> x.player(1, 2));
    }

    private void darkCommand() {
        sentence("Terms", "d and a digit (1 to 9): dark();");
        everyCharacterBehind("Hd", "123456789", "");
        for (int days = 1; days <= 9; days++) {
            due("today", days, house("Hd" + days), x -> x.about(2));
            due("no performance", 0, house("Hr1d" + days), x -> x.about(3) + x.about(4));
        }
        error("Hd11", 3);
    }

    private void playCommand() {
        sentence("Terms", "g: play().");
        due("a performance", 1, house("Hr1py001g"), x -> x.about(3));
        due("one that is called off", 1, house("Hr1g"), x -> x.about(4));
        due("many", 105, house("Hr1" + "g".repeat(105)), x -> x.about(4));
        error("Hg0", 2);
    }

    private void leftOut(String text, int want) {
        due("load() of " + text, want, text(text), StandIns::load);
    }

    private void leftOutCommands() {
        sentence("Terms", "Commands that would throw an exception are left out.");
        leftOut("Hr1r1r1r1r1r1", 0);
        leftOut("Hr1r1r1r1r1r1r1", 1);
        leftOut("Hpppppppppp", 0);
        leftOut("Hppppppppppp", 1);
        leftOut("Hr1py000", 0);
        leftOut("Hr1py100", 1);
        leftOut("Hr1py010", 1);
        leftOut("Hr1pf00", 0);
        leftOut("Hr1pf01", 1);
        leftOut("Hr1pf10", 1);
        leftOut("Hpa01", 0);
        leftOut("Hpa11", 1);
        leftOut("Hr1g", 0);
        leftOut("Hpg", 1);
        leftOut("Hd9", 0);
        same("nothing of them is done", text("Hr1py001").then(StandIns::load).then(StandIns::clearText),
            text("Hgr1y009pf01a11y101y011f10y001").then(StandIns::load).then(StandIns::clearText));
    }

    private void noBlanks() {
        sentence("Terms", "There are no blanks.");
        error(" ", 0);
        error(" H", 0);
        error("H ", 1);
        error("H p", 1);
        error("Hr 1", 2);
        error("Hp ", 2);
        error("Hp\n", 2);
        error("Hp\t", 2);
    }

    private void leftToRight() {
        sentence("Terms", "The text is read from left to right.");
        due("what comes later stays", 4, house("Hr1py009y004"), x -> x.both(0, 0, 0));
        due("a role that comes too late", 1, text("Hpy001r1"), StandIns::load);
        due("a performance ahead of the degree", 1, house("Hr1pgy001g"), x -> x.about(4));
        error("Hxrx", 1);
        error("Hr0y6", 2);
    }

    private void errorPosition() {
        sentence("Terms", "The error position is the index of the first character that these rules do not allow at its place;");
        error("h", 0);
        error("Hpxg", 2);
        error("Hr1r0", 4);
        error("Hy9x", 3);
        error(FULL.substring(0, 119) + "x", 119);
        error("x" + FULL.substring(1), 0);
        error("Hf0", 3);
        error("Hf0f", 3);
    }

    private void textTooShort() {
        sentence("Terms", "if the text ends too soon, it is the length of the text.");
        error("", 0);
        for (String command : new String[] {"r1", "y000", "f00", "a01", "d1"}) {
            for (int n = 1; n < command.length(); n++) {
                error("H" + command.substring(0, n), 1 + n);
                error(FULL.substring(0, 120 - n) + command.substring(0, n), 120);
            }
            error("H" + command, NONE);
            error(FULL.substring(0, 120 - command.length()) + command, NONE);
        }
        error("Hp", NONE);
        error("Hg", NONE);
    }

    private void textCalls() {
        sentence("Terms", "Ahead of the calls append, clearText, errorPosition, load the interface says: ---- text.");
        Recipe cleared = busy().then(StandIns::clearText);
        same("append() changes the text alone", cleared, cleared.then(x -> x.append('H')).then(StandIns::clearText));
        due("clearText() is no action", 10, busy().then(StandIns::clearText), StandIns::undo);
        due("append() is no action", 10, busy().then(x -> x.append('p')), StandIns::undo);
        keeps("errorPosition()", busy(), StandIns::errorPosition);
    }

    private void append() {
        sentence("2", "Appends a character to the text buffer.");
        due("the first one", NONE, fresh().then(x -> x.append('H')), StandIns::errorPosition);
        same("one behind the other", text("Hr7"),
            fresh().then(x -> x.append('H')).then(x -> x.append('r')).then(x -> x.append('7')));
        due("behind what was loaded", 2, house("Hr1").then(x -> Checks.put(x, "r2")).then(StandIns::load), x -> x.about(0));
    }

    private void appendCodes() {
        sentence("2", "c: character code, 0 to 255");
        for (int c = 0; c <= 255; c++) {
            int code = c;
            due("append(" + c + ")", 1, fresh(), x -> x.append(code));
            due("it is an H, or none", c == 72 ? NONE : 0, fresh().then(x -> x.append(code)), StandIns::errorPosition);
        }
    }

    private void appendLength() {
        sentence("2", "Returns the new length of the text.");
        for (int n = 0; n < 120; n++) {
            due("append() behind " + n, n + 1, text(FULL.substring(0, n)), x -> x.append('p'));
        }
        due("append() behind clearText()", 1, text(FULL).then(StandIns::clearText), x -> x.append('H'));
    }

    private void appendOutOfRange() {
        sentence("2", "Throws IllegalArgumentException if c is out of range");
        range("append(c)", 0, 255, ARGUMENT, busy(), StandIns::append);
        refused("append(72 + 256)", ARGUMENT, fresh(), x -> x.append(72 + 256));
        beyond("append(c) to a full text", 0, 255, ARGUMENT, text(FULL), StandIns::append);
    }

    private void appendToFull() {
        sentence("2", "Throws IllegalStateException if the text already has 120 characters");
        due("append() to 119", 120, text("H".repeat(119)), x -> x.append(255));
        for (int c : new int[] {0, 'H', 'p', 255}) {
            refused("append() to 120", STATE, text(FULL), x -> x.append(c));
        }
    }

    private void clearText() {
        sentence("3", "Empties the text buffer.");
        due("errorPosition() behind it", 0, text("H").then(StandIns::clearText), StandIns::errorPosition);
        same("the text is new", fresh(), text(FULL).then(StandIns::clearText));
        same("what was there does not come back", text("Hr"), text("Hr1").then(StandIns::clearText).then(x -> Checks.put(x, "Hr")));
        due("there is room for 120", 120, text(FULL).then(StandIns::clearText).then(x -> Checks.put(x, FULL)), StandIns::clearText);
        same("a text that is cleared twice", fresh(), text("H").then(StandIns::clearText).then(StandIns::clearText));
    }

    private void clearTextLength() {
        sentence("3", "Returns the previous length of the text.");
        for (int n : new int[] {0, 1, 2, 119, 120}) {
            due("clearText() of " + n, n, text(FULL.substring(0, n)), StandIns::clearText);
            due("clearText() behind it", 0, text(FULL.substring(0, n)).then(StandIns::clearText), StandIns::clearText);
        }
        due("a refused character does not count", 120, tried(text(FULL), x -> x.append(0)), StandIns::clearText);
    }

    private void checksTheText() {
        sentence("4", "Checks the text.", "Returns the error position of the text; NONE if it is a house.");
        for (String text : new String[] {"", "H", "Hr", "x", FULL}) {
            keeps("errorPosition() of " + text, text(text), StandIns::errorPosition);
        }
        error("", 0);
        error("H", NONE);
        error("Hr", 2);
        error("x", 0);
        error(FULL, NONE);
        error(TWO, NONE);
    }

    private void loadMakesNew() {
        sentence("5", "Makes everything as in a new object, and then does the commands of the text.");
        for (String text : new String[] {"H", TWO, "Hr9ppy105ggd2", FULL}) {
            Recipe messy = busyFull().then(StandIns::clearText).then(x -> Checks.put(x, text)).then(StandIns::load);
            same("load() of " + text, text(text).then(StandIns::load), messy);
            same("load() of " + text + " twice", text(text).then(StandIns::load), messy.then(StandIns::load));
        }
        due("today", 0, busy().then(StandIns::clearText).then(x -> x.append('H')).then(StandIns::load), x -> x.about(2));
        due("a setting", 10, busy().then(StandIns::load), x -> x.setting(1));
    }

    private void loadForgets() {
        sentence("5", "Behind it no state is remembered, and both save slots are empty.");
        for (Recipe before : new Recipe[] {text("Hr1pg"), busy(), busyFull()}) {
            Recipe loaded = before.then(StandIns::load);
            refused("undo()", STATE, loaded, StandIns::undo);
            refused("restore(0)", STATE, loaded, x -> x.restore(0));
            refused("restore(1)", STATE, loaded, x -> x.restore(1));
            due("an action behind it", 0, loaded.then(x -> x.dark(1)), StandIns::undo);
        }
    }

    private void loadKeepsTheText() {
        sentence("5", "Keeps the text.");
        due("clearText() behind it", TWO.length(), two(), StandIns::clearText);
        due("clearText() behind a full one", 120, text(FULL).then(StandIns::load), StandIns::clearText);
        due("load() again", 0, two().then(x -> x.addRole(1)), StandIns::load);
        due("append() behind it", TWO.length() + 1, two(), x -> x.append('p'));
    }

    private void loadLeavesOut() {
        sentence("5", "Returns the number of commands that are left out.");
        leftOut("H", 0);
        leftOut("Hg", 1);
        leftOut("Hgg", 2);
        leftOut(TWO, 0);
        leftOut(FULL, 109);
        leftOut("H" + "g".repeat(119), 119);
        leftOut("Hr1y000py010f10a11pppppppppppr9", 6);
    }

    private void loadNoHouse() {
        sentence("5", "Throws IllegalStateException if the text is not a house");
        for (String text : new String[] {"", "x", "h", "Hr", "Hr0", "Hp ", "HH", FULL.substring(0, 119) + "y"}) {
            refused("load() of " + text, STATE, text(text), StandIns::load);
            Recipe busy = busyFull().then(StandIns::clearText).then(x -> Checks.put(x, text));
            refused("load() of " + text + " in a busy house", STATE, busy, StandIns::load);
        }
        due("load() of H", 0, text("H"), StandIns::load);
    }
}

/** The sentences of "Terms" on actions and exceptions, and promises 12 to 22. */
final class ActionEdges extends Edges {
    ActionEdges(Tally tally) {
        super(tally);
    }

    @Override
    void all() {
        whatTheStateIs();
        actionCalls();
        eachCallIsAnAction();
        rememberedBefore();
        mostRemembered();
        noActions();
        boundsException();
        argumentException();
        stateException();
        firstNamedException();
        refusedChangesNothing();
        addRole();
        addRoleWeight();
        addRoleRefused();
        addPlayer();
        ready();
        readyRefused();
        first();
        firstRefused();
        away();
        awayDays();
        awayRefused();
        post();
        postRefused();
        play();
        playTogether();
        playRefused();
        dark();
        darkRefused();
        promote();
        promoteTies();
        promoteRefused();
        set();
        undo();
        undoCounts();
        undoRefused();
    }

    private void whatTheStateIs() {
        sentence("Terms", "The methods in the section \"actions\" change the state, which consists of everything but the text and"
            + " the save slots.");
        Recipe before = busy().then(x -> x.set(4, 99));
        Recipe behind = before.then(x -> x.append('p')).then(x -> x.save(0)).then(StandIns::undo);
        due("the text is not taken back", TWO.length() + 1, behind, StandIns::clearText);
        due("the save slot is not taken back", 99, behind.then(x -> x.restore(0)), x -> x.setting(4));
        due("but the setting", 15, behind, x -> x.setting(4));
        due("the text is not restored", TWO.length() + 1, behind.then(x -> x.restore(0)), StandIns::clearText);
        same("what is posted is state", busy(), busy().then(StandIns::post).then(StandIns::undo));
        same("today and the pay are state", busy(), busy().then(StandIns::play).then(StandIns::undo));
    }

    private void actionCalls() {
        sentence("Terms", "Ahead of the calls addRole, addPlayer, ready, first, away, post, play, dark, promote, set, undo the"
            + " interface says: ---- actions.");
        Recipe played = busy().then(StandIns::play).then(x -> x.first(1, 0));
        for (int n = 0; n <= 3; n++) {
            Recipe recipe = played.times(n, x -> x.set(4, 50));
            action("addRole", recipe, x -> x.addRole(9));
            action("addPlayer", recipe, StandIns::addPlayer);
            action("ready", recipe, x -> x.ready(0, 0, 1));
            action("first", recipe, x -> x.first(0, 1));
            action("away", recipe, x -> x.away(2, 5));
            action("post", recipe, StandIns::post);
            action("play", recipe, StandIns::play);
            action("dark", recipe, x -> x.dark(2));
            action("promote", recipe, x -> x.promote(1));
            action("set", recipe, x -> x.set(1, 99));
        }
        action("post instead", two().then(StandIns::post).then(x -> x.away(0, 1)), StandIns::post);
        action("play that is posted", busy(), StandIns::play);
        action("dark that is posted", busy(), x -> x.dark(1));
        action("play that is called off", busy().then(x -> x.away(0, 1)), StandIns::play);
    }

    private void eachCallIsAnAction() {
        sentence("Terms", "Each call of one of them that does not throw an exception is an action, also if nothing becomes different"
            + " (undo is none).");
        action("ready with the same degree", two(), x -> x.ready(0, 0, 5));
        action("ready with 0 again", two().then(x -> x.ready(0, 0, 0)), x -> x.ready(0, 0, 0));
        action("the same first one", two(), x -> x.first(0, 0));
        action("away as before", two().then(x -> x.away(0, 3)), x -> x.away(0, 3));
        action("the same posted", two().then(StandIns::post), StandIns::post);
        action("the same setting", two(), x -> x.set(0, 5));
        action("a performance that is called off", house("Hr1"), StandIns::play);
        due("undo() is none", 0, two().times(2, x -> x.dark(1)).then(StandIns::undo), StandIns::undo);
        refused("undo() of undo()", STATE, two().then(x -> x.dark(1)).then(StandIns::undo), StandIns::undo);
        same("a call that throws is none", two().then(x -> x.dark(1)),
            tried(two().then(x -> x.dark(1)), x -> x.dark(0)));
        due("of one that throws and one that does not", 0, tried(two().then(x -> x.dark(1)), x -> x.away(9, 1)), StandIns::undo);
    }

    private void rememberedBefore() {
        sentence("Terms", "Before each action, the state is remembered.");
        due("none without an action", 0, two(), Whole::remembered);
        for (int n = 1; n <= 14; n++) {
            due(n + " behind as many actions", n, two().times(n, x -> x.dark(1)), Whole::remembered);
        }
        due("as it was before", 3, two().then(x -> x.dark(3)).then(x -> x.dark(9)).then(StandIns::undo), x -> x.about(2));
    }

    private void mostRemembered() {
        sentence("Terms", "At most 14 states are remembered; when one more is remembered, the oldest one is forgotten.");
        for (int n = 13; n <= 30; n++) {
            Recipe days = two().times(n, x -> x.dark(1));
            int most = Math.min(n, 14);
            due("remembered of " + n, most, days, Whole::remembered);
            for (int back = 1; back <= most; back++) {
                due(back + " of " + n + " taken back", n - back, days.times(back, StandIns::undo), x -> x.about(2));
                due("how many are left", most - back, days.times(back - 1, StandIns::undo), StandIns::undo);
            }
            refused("one more", STATE, days.times(most, StandIns::undo), StandIns::undo);
        }
        Recipe mixed = two().times(14, x -> x.dark(1)).times(5, StandIns::undo).times(7, x -> x.dark(2));
        due("14 behind 9 and 7", 14, mixed, Whole::remembered);
        due("the oldest of them", 2, mixed.times(14, StandIns::undo), x -> x.about(2));
    }

    private void noActions() {
        sentence("Terms", "load and restore are not actions.");
        refused("undo() of load()", STATE, text(TWO).then(StandIns::load), StandIns::undo);
        refused("undo() of restore()", STATE, two().then(x -> x.save(0)).then(x -> x.restore(0)), StandIns::undo);
        due("nor is save()", 10, busy().then(x -> x.save(0)), StandIns::undo);
    }

    private void boundsException() {
        sentence("Terms", "IndexOutOfBoundsException means that a role or a player does not exist, or that a save slot is not 0 or"
            + " 1.");
        refused("the role 2 of two", BOUNDS, two(), x -> x.role(2, 0));
        refused("the player 3 of three", BOUNDS, two(), x -> x.player(3, 0));
        refused("the role -1", BOUNDS, two(), x -> x.role(-1, 0));
        refused("the player -1", BOUNDS, two(), x -> x.player(-1, 0));
        refused("the save slot 2", BOUNDS, two(), x -> x.save(2));
        refused("the save slot -1", BOUNDS, two(), x -> x.restore(-1));
    }

    private void argumentException() {
        sentence("Terms", "IllegalArgumentException means that another argument is out of its range.");
        refused("a degree", ARGUMENT, two(), x -> x.ready(0, 0, 10));
        refused("days", ARGUMENT, two(), x -> x.away(0, 100));
        refused("a setting", ARGUMENT, two(), x -> x.setting(5));
        refused("a number of commands", ARGUMENT, two(), x -> x.runScript(4, 0));
    }

    private void stateException() {
        sentence("Terms", "IllegalStateException means what the method says.");
        refused("nothing remembered", STATE, two(), StandIns::undo);
        refused("nothing saved", STATE, two(), x -> x.restore(0));
        refused("no roles", STATE, house("Hp"), StandIns::play);
    }

    private void firstNamedException() {
        sentence("Terms", "If several exceptions apply to a call, the one that its description names first is thrown.");
        Recipe noText = text("H".repeat(120));
        refused("append(256) to a full text", ARGUMENT, noText, x -> x.append(256));
        refused("role(2, 5)", BOUNDS, two(), x -> x.role(2, 5));
        refused("player(3, 6)", BOUNDS, two(), x -> x.player(3, 6));
        refused("both(3, 0, 3)", BOUNDS, two(), x -> x.both(3, 0, 3));
        refused("both(0, 2, 3)", BOUNDS, two(), x -> x.both(0, 2, 3));
        refused("addRole(0) with six", ARGUMENT, full(), x -> x.addRole(0));
        refused("addRole(10) with a posted cast", ARGUMENT, two().then(StandIns::post), x -> x.addRole(10));
        refused("ready(3, 0, 10)", BOUNDS, two(), x -> x.ready(3, 0, 10));
        refused("ready(0, 2, -1)", BOUNDS, two(), x -> x.ready(0, 2, -1));
        refused("away(3, 0)", BOUNDS, two(), x -> x.away(3, 0));
        refused("promote(2), never played", BOUNDS, two(), x -> x.promote(2));
        refused("coming(0) without roles", ARGUMENT, house("Hp"), x -> x.coming(0));
        refused("coming(31) without roles", ARGUMENT, house("Hp"), x -> x.coming(31));
        refused("restore(2), nothing saved", BOUNDS, two(), x -> x.restore(2));
        refused("restore(-1), nothing saved", BOUNDS, two(), x -> x.restore(-1));
    }

    private void refusedChangesNothing() {
        sentence("Terms", "A call that throws an exception changes nothing.");
        Call[] calls = {x -> x.append(-1), x -> x.about(8), x -> x.role(2, 0), x -> x.role(0, 5), x -> x.player(3, 0),
            x -> x.player(0, 6), x -> x.both(3, 0, 0), x -> x.both(0, 0, 3), x -> x.setting(5), x -> x.ranked(-1),
            x -> x.addRole(0), x -> x.addRole(1), x -> x.ready(3, 0, 1), x -> x.ready(0, 2, 1), x -> x.ready(0, 0, 10),
            x -> x.first(2, 0), x -> x.first(0, 3), x -> x.away(3, 1), x -> x.away(0, 100), x -> x.dark(100),
            x -> x.promote(2), x -> x.promote(0), x -> x.set(5, 1), x -> x.set(0, 10), x -> x.without(3), x -> x.coming(31),
            x -> x.degreeFor(3, 0), x -> x.degreeFor(0, 2), x -> x.runScript(0, 0), x -> x.runScript(1, 10000),
            x -> x.simulate(0, 41), x -> x.save(2), x -> x.restore(2)};
        for (int i = 0; i < calls.length; i++) {
            Call call = calls[i];
            for (Recipe recipe : new Recipe[] {busy(), busyFull()}) {
                due("the call " + i + " throws", 1, recipe, x -> doesThrow(x, call));
                same("the call " + i, recipe, tried(recipe, call));
            }
        }
    }

    private static int doesThrow(StandIns x, Call call) {
        try {
            call.on(x);
            return 0;
        } catch (RuntimeException e) {
            return 1;
        }
    }

    private void addRole() {
        sentence("12", "Adds a role without a first player.", "Returns its number.");
        for (int n = 0; n < 6; n++) {
            Recipe recipe = house("Hp" + "r5".repeat(n));
            int r = n;
            due("its number", n, recipe, x -> x.addRole(3));
            due("how many there are", n + 1, recipe.then(x -> x.addRole(3)), x -> x.about(0));
            due("its weight", 3, recipe.then(x -> x.addRole(3)), x -> x.role(r, 0));
            due("without a first player", NONE, recipe.then(x -> x.addRole(3)), x -> x.role(r, 1));
        }
        due("nobody is ready for it", 0, two().then(x -> x.addRole(3)), x -> x.both(0, 2, 0) + x.both(2, 2, 0));
        due("there is no cast", NONE, two().then(x -> x.addRole(3)), StandIns::strength);
    }

    private void addRoleWeight() {
        sentence("12", "weight: 1 to 9", "Throws IllegalArgumentException if weight is out of range");
        range("addRole(weight)", 1, 9, ARGUMENT, fresh(), StandIns::addRole);
        range("addRole(weight) as the last one", 1, 9, ARGUMENT, house("Hr1r1r1r1r1"), StandIns::addRole);
        beyond("addRole(weight) with six", 1, 9, ARGUMENT, full(), StandIns::addRole);
        beyond("addRole(weight) with a posted cast", 1, 9, ARGUMENT, busy(), StandIns::addRole);
    }

    private void addRoleRefused() {
        sentence("12", "Throws IllegalStateException if there are 6, or a cast is posted");
        due("with five", 5, house("Hr1r1r1r1r1"), x -> x.addRole(1));
        refused("with six", STATE, full(), x -> x.addRole(1));
        refused("with six, and a posted cast", STATE, full().then(StandIns::post), x -> x.addRole(9));
        refused("with a posted cast", STATE, two().then(StandIns::post), x -> x.addRole(1));
        Recipe noCast = two().then(StandIns::post).then(x -> x.away(0, 1)).then(x -> x.away(1, 1));
        refused("with a posted cast, and none any more", STATE, noCast, x -> x.addRole(1));
        due("on the next day", 2, noCast.then(StandIns::play), x -> x.addRole(1));
        due("taken back", 2, two().then(StandIns::post).then(StandIns::undo), x -> x.addRole(1));
        due("one of six taken back", 5, house("Hr1r1r1r1r1").then(x -> x.addRole(1)).then(StandIns::undo), x -> x.addRole(1));
    }

    private void addPlayer() {
        sentence("13", "Adds a player.", "Returns the number of the player.", "Throws IllegalStateException if there are 10");
        for (int n = 0; n < 10; n++) {
            Recipe recipe = house("Hr1" + "p".repeat(n));
            int p = n;
            due("the number", n, recipe, StandIns::addPlayer);
            due("how many there are", n + 1, recipe.then(StandIns::addPlayer), x -> x.about(1));
            due("free", 1, recipe.then(StandIns::addPlayer), x -> x.player(p, 3));
            due("not ready", 0, recipe.then(StandIns::addPlayer), x -> x.both(p, 0, 0));
        }
        refused("with ten", STATE, house("Hpppppppppp"), StandIns::addPlayer);
        refused("with ten and six roles", STATE, full(), StandIns::addPlayer);
        due("with a posted cast", 3, two().then(StandIns::post), StandIns::addPlayer);
        due("with one of ten taken back", 9, house("Hppppppppp").then(StandIns::addPlayer).then(StandIns::undo), StandIns::addPlayer);
    }

    private void ready() {
        sentence("14", "Makes a player ready for a role, to some degree.", "p: player", "r: role", "degree: 0 to 9",
            "Returns the previous degree.", "Throws IllegalArgumentException if degree is out of range");
        for (int degree = 0; degree <= 9; degree++) {
            int d = degree;
            Recipe before = house("Hr1py00" + d);
            due("the previous degree", d, before, x -> x.ready(0, 0, 9 - d));
            due("the degree", 9 - d, before.then(x -> x.ready(0, 0, 9 - d)), x -> x.both(0, 0, 0));
        }
        due("at first", 0, house("Hr1p"), x -> x.ready(0, 0, 0));
        readyForEachRole();
        due("another one's degree stays", 6, two().then(x -> x.ready(0, 0, 9)), x -> x.both(1, 0, 0));
        due("the other role's degree stays", 3, two().then(x -> x.ready(0, 0, 9)), x -> x.both(0, 1, 0));
        range("ready(0, 0, degree)", 0, 9, ARGUMENT, busy(), (x, d) -> x.ready(0, 0, d));
        range("ready(9, 5, degree)", 0, 9, ARGUMENT, full(), (x, d) -> x.ready(9, 5, d));
    }

    /** No player's degree for a role is another one's, or another role's. */
    private void readyForEachRole() {
        Recipe recipe = full();
        for (int i = 0; i < 60; i++) {
            int some = i;
            recipe = recipe.then(x -> x.ready(some % 10, some / 10, degreeOf(some % 10, some / 10)));
        }
        for (int i = 0; i < 60; i++) {
            int p = i % 10;
            int r = i / 10;
            due("the degree of " + p + " for " + r, degreeOf(p, r), recipe, x -> x.both(p, r, 0));
            due("the others' degrees", degreeOf(p, r), full().then(x -> x.ready(p, r, degreeOf(p, r))), x -> x.both(p, r, 0));
        }
        due("the degrees of all", 60 - 1 + 9, full().then(x -> x.ready(9, 0, 9)), ActionEdges::degrees);
        due("the degrees of all again", 60 - 1 + 9, full().then(x -> x.ready(0, 1, 9)), ActionEdges::degrees);
    }

    private static int degreeOf(int p, int r) {
        return (7 * p + 4 * r) % 10;
    }

    private static int degrees(StandIns x) {
        int sum = 0;
        for (int i = 0; i < 60; i++) {
            sum += x.both(i % 10, i / 10, 0);
        }
        return sum;
    }

    private void readyRefused() {
        sentence("14", "Throws IndexOutOfBoundsException if there is no such player or role");
        for (int degree : new int[] {0, 9, -1, 10}) {
            beyond("ready(p, 0, " + degree + ")", 0, 2, BOUNDS, busy(), (x, p) -> x.ready(p, 0, degree));
            beyond("ready(0, r, " + degree + ")", 0, 1, BOUNDS, busy(), (x, r) -> x.ready(0, r, degree));
        }
        range("ready(p, 5, 3) of ten", 0, 9, BOUNDS, full(), (x, p) -> x.ready(p, 5, 3));
        range("ready(9, r, 3) of six", 0, 5, BOUNDS, full(), (x, r) -> x.ready(9, r, 3));
        refused("without roles", BOUNDS, house("Hp"), x -> x.ready(0, 0, 1));
        refused("without players", BOUNDS, house("Hr1"), x -> x.ready(0, 0, 1));
    }

    private void first() {
        sentence("15", "Makes a player the first one of a role.", "r: role", "p: player",
            "Returns the previous first player, NONE without one.");
        due("without one", NONE, house("Hr1p"), x -> x.first(0, 0));
        due("the previous one", 0, two(), x -> x.first(0, 2));
        due("the same one", 0, two(), x -> x.first(0, 0));
        due("the new one", 2, two().then(x -> x.first(0, 2)), x -> x.role(0, 1));
        due("the other role's one stays", 1, two().then(x -> x.first(0, 2)), x -> x.role(1, 1));
        due("one may be the first of two", 1, two().then(x -> x.first(0, 1)), x -> x.role(0, 1));
        due("the posted one stays", 0, two().then(StandIns::post).then(x -> x.first(0, 2)), x -> x.role(0, 3));
        due("of ten", 9, full().then(x -> x.first(5, 9)), x -> x.first(5, 0));
    }

    private void firstRefused() {
        sentence("15", "Throws IndexOutOfBoundsException if there is no such role or player");
        beyond("first(r, 0)", 0, 1, BOUNDS, busy(), (x, r) -> x.first(r, 0));
        beyond("first(0, p)", 0, 2, BOUNDS, busy(), (x, p) -> x.first(0, p));
        range("first(r, 9) of six", 0, 5, BOUNDS, full(), (x, r) -> x.first(r, 9));
        range("first(5, p) of ten", 0, 9, BOUNDS, full(), (x, p) -> x.first(5, p));
        refused("without roles", BOUNDS, house("Hp"), x -> x.first(0, 0));
        refused("without players", BOUNDS, house("Hr1"), x -> x.first(0, 0));
    }

    private void away() {
        sentence("16", "A player goes away, instead of what was told before.", "p: player",
            "Returns the day on which the player is back.");
        Recipe ten = two().then(x -> x.away(0, 10));
        due("shorter than before", 1, ten.then(x -> x.away(0, 1)), x -> x.player(0, 2));
        due("longer than before", 99, ten.then(x -> x.away(0, 99)), x -> x.player(0, 2));
        due("another player", 10, ten.then(x -> x.away(1, 1)), x -> x.player(0, 2));
        due("from today on", 3, ten.then(x -> x.dark(2)).then(x -> x.away(0, 3)), x -> x.player(0, 2));
        due("the day", 1, two(), x -> x.away(0, 1));
        due("the last day there may be", 99, two(), x -> x.away(0, 99));
        due("the day, later", 7 + 99, two().then(x -> x.dark(7)), x -> x.away(2, 99));
        due("the day, of one who is away", 5, ten, x -> x.away(0, 5));
    }

    private void awayDays() {
        sentence("16", "days: 1 to 99: so many days, from today on", "Throws IllegalArgumentException if days is out of range");
        range("away(0, days)", 1, 99, ARGUMENT, busy(), (x, days) -> x.away(0, days));
        range("away(9, days)", 1, 99, ARGUMENT, full(), (x, days) -> x.away(9, days));
        due("not free today", 0, two().then(x -> x.away(0, 1)), x -> x.player(0, 3));
        due("free on the next day", 1, two().then(x -> x.away(0, 1)).then(x -> x.dark(1)), x -> x.player(0, 3));
        due("not free on the last day", 0, two().then(x -> x.away(0, 99)).then(x -> x.dark(98)), x -> x.player(0, 3));
        due("free behind it", 1, two().then(x -> x.away(0, 99)).then(x -> x.dark(99)), x -> x.player(0, 3));
    }

    private void awayRefused() {
        sentence("16", "Throws IndexOutOfBoundsException if there is no such player");
        for (int days : new int[] {1, 99, 0, 100}) {
            beyond("away(p, " + days + ")", 0, 2, BOUNDS, busy(), (x, p) -> x.away(p, days));
        }
        range("away(p, 1) of ten", 0, 9, BOUNDS, full(), (x, p) -> x.away(p, 1));
        refused("without players", BOUNDS, fresh(), x -> x.away(0, 1));
    }

    private void post() {
        sentence("17", "Posts the cast of today, instead of one that is posted.", "Returns its strength.");
        due("the strength", 97, two(), StandIns::post);
        due("posted", 1, two().then(StandIns::post), x -> x.about(6));
        Recipe instead = two().then(StandIns::post).then(x -> x.away(0, 1));
        due("the strength of the other one", 42, instead, StandIns::post);
        due("the posted one", 0, instead, x -> x.role(0, 3));
        due("the one posted instead", 2, instead.then(StandIns::post), x -> x.role(0, 3));
        due("the least strength", 1, house("Hr1py001"), StandIns::post);
        due("of six", 24, full(), StandIns::post);
        due("today stays", 0, two().then(StandIns::post), x -> x.about(2));
    }

    private void postRefused() {
        sentence("17", "Throws IllegalStateException if there is no cast, or there are no roles");
        refused("no cast", STATE, house("Hr1p"), StandIns::post);
        refused("no player", STATE, house("Hr1"), StandIns::post);
        refused("no roles", STATE, house("Hp"), StandIns::post);
        refused("no roles, no players", STATE, fresh(), StandIns::post);
        refused("no cast any more", STATE, two().then(StandIns::post).then(x -> x.away(0, 1)).then(x -> x.away(1, 1)), StandIns::post);
        refused("not enough players", STATE, busy().then(x -> x.away(0, 1)), StandIns::post);
        refused("too many days in a row", STATE, house("Hr1py001ggggg"), StandIns::post);
        due("one day fewer", 1, house("Hr1py001gggg"), StandIns::post);
    }

    private void play() {
        sentence("18", "Plays today.");
        Recipe played = two().then(StandIns::play);
        pays("the pay", played, 20, 14, 0);
        due("the next day", 1, played, x -> x.about(2));
        due("the performance", 1, played, x -> x.about(3));
        due("the days in a row", 1, played, x -> x.player(0, 1));
        due("how often 0 played 0", 1, played, x -> x.both(0, 0, 1));
    }

    private void playTogether() {
        sentence("18", "Returns what those who play get together; NONE if the performance is called off.");
        due("two", 34, two(), StandIns::play);
        due("two with a stand-in", 39, two().then(x -> x.away(0, 1)), StandIns::play);
        due("two with a late call", 54, two().then(StandIns::post).then(x -> x.away(0, 1)), StandIns::play);
        Recipe nothing = house("Hr9py001").then(x -> x.set(1, 0)).then(x -> x.set(2, 0)).then(x -> x.set(3, 0));
        due("nothing, but not called off", 0, nothing, StandIns::play);
        due("called off", NONE, nothing.then(x -> x.away(0, 1)), StandIns::play);
        due("no player", NONE, house("Hr1"), StandIns::play);
        due("five days in a row", NONE, house("Hr1py001ggggg"), StandIns::play);
        due("six", 6 * 15 + 2 * 24, full(), StandIns::play);
    }

    private void playRefused() {
        sentence("18", "Throws IllegalStateException if there are no roles");
        refused("without anything", STATE, fresh(), StandIns::play);
        refused("with players", STATE, house("Hpp"), StandIns::play);
        refused("with the only role taken back", STATE, house("Hp").then(x -> x.addRole(1)).then(StandIns::undo), StandIns::play);
        taken("with a role", house("Hr1"), StandIns::play);
    }

    private void dark() {
        sentence("19", "Lets days go by without a performance.", "Returns today then.");
        due("a day", 1, two(), x -> x.dark(1));
        due("99 days", 99, two(), x -> x.dark(99));
        due("one behind the other", 104, two().then(x -> x.dark(5)), x -> x.dark(99));
        Recipe played = two().times(5, StandIns::play);
        due("today", 6, played.then(x -> x.dark(1)), x -> x.about(2));
        due("no performance", 5, played.then(x -> x.dark(1)), x -> x.about(3));
        due("none called off", 0, played.then(x -> x.dark(1)), x -> x.about(4));
        due("no days in a row", 0, played.then(x -> x.dark(1)), x -> x.player(0, 1));
        due("free again", 1, played.then(x -> x.dark(1)), x -> x.player(0, 3));
        due("without roles and players", 1, fresh(), x -> x.dark(1));
        pays("nobody gets more", played.then(x -> x.dark(99)), 100, 70, 0);
    }

    private void darkRefused() {
        sentence("19", "n: 1 to 99", "Throws IllegalArgumentException if n is out of range");
        range("dark(n)", 1, 99, ARGUMENT, busy(), StandIns::dark);
        range("dark(n) in a new object", 1, 99, ARGUMENT, fresh(), StandIns::dark);
    }

    /** A house of three players and a role, played by each of them so many days. */
    private static Recipe playedDays(int... days) {
        Recipe recipe = house("Hr1ppp").then(x -> x.set(0, 9));
        for (int p = 0; p < 3; p++) {
            int player = p;
            recipe = recipe.then(x -> x.ready(player, 0, 1)).times(days[p], StandIns::play).then(x -> x.ready(player, 0, 0));
        }
        return recipe;
    }

    private void promote() {
        sentence("20", "Promotes a player: the one who has played a role most often so far,",
            "becomes its first player, if more often than its first player.", "r: role", "Returns its first player then.");
        due("without a first player", 1, playedDays(1, 3, 2), x -> x.promote(0));
        due("the first player then", 1, playedDays(1, 3, 2).then(x -> x.promote(0)), x -> x.role(0, 1));
        due("a first player who played less", 1, playedDays(1, 3, 2).then(x -> x.first(0, 2)), x -> x.promote(0));
        due("a first player who never played", 0, playedDays(1, 0, 0).then(x -> x.first(0, 2)), x -> x.promote(0));
        refused("the one who played most is it", STATE, playedDays(1, 3, 2).then(x -> x.first(0, 1)), x -> x.promote(0));
        due("only this role counts", 1, house("Hr1r1ppy001y111").then(StandIns::play), x -> x.promote(1));
        Recipe other = house("Hr1r1ppy001y111").times(3, StandIns::play).then(x -> x.ready(0, 0, 0)).then(x -> x.ready(1, 1, 0))
            .then(x -> x.ready(0, 1, 1)).then(x -> x.ready(1, 0, 1)).then(StandIns::play);
        due("3 against 1 in the role 0", 0, other, x -> x.promote(0));
        due("3 against 1 in the role 1", 1, other, x -> x.promote(1));
        due("who cannot play it any more", 0, playedDays(2, 1, 0).then(x -> x.away(0, 9)), x -> x.promote(0));
        due("the last role", 5, full().then(StandIns::play), x -> x.promote(5));
    }

    private void promoteTies() {
        sentence("20", "of several the lowest one,");
        due("all the same", 0, playedDays(2, 2, 2), x -> x.promote(0));
        due("the higher two", 1, playedDays(1, 2, 2), x -> x.promote(0));
        due("the outer two", 0, playedDays(2, 1, 2), x -> x.promote(0));
        due("one more is more", 2, playedDays(2, 2, 3), x -> x.promote(0));
        due("a first player of the least", 0, playedDays(2, 2, 1).then(x -> x.first(0, 2)), x -> x.promote(0));
    }

    private void promoteRefused() {
        sentence("20", "Throws IndexOutOfBoundsException if there is no such role",
            "Throws IllegalStateException if nobody has played it more often than its first player (without one: if nobody has"
            + " played it)");
        beyond("promote(r)", 0, 1, BOUNDS, busy(), StandIns::promote);
        beyond("promote(r) of six", 0, 5, BOUNDS, full().then(StandIns::play), StandIns::promote);
        refused("without roles", BOUNDS, house("Hp"), x -> x.promote(0));
        refused("nobody played it", STATE, playedDays(0, 0, 0), x -> x.promote(0));
        refused("nobody played it, with a first player", STATE, playedDays(0, 0, 0).then(x -> x.first(0, 1)), x -> x.promote(0));
        refused("without players", STATE, house("Hr1"), x -> x.promote(0));
        refused("as often, and lower", STATE, playedDays(2, 2, 0).then(x -> x.first(0, 1)), x -> x.promote(0));
        refused("as often, and higher", STATE, playedDays(2, 2, 0).then(x -> x.first(0, 0)), x -> x.promote(0));
        due("once more", 0, playedDays(3, 2, 0).then(x -> x.first(0, 1)), x -> x.promote(0));
        due("once, without a first player", 2, playedDays(0, 0, 1), x -> x.promote(0));
        refused("promoted already", STATE, playedDays(0, 0, 1).then(x -> x.promote(0)), x -> x.promote(0));
        refused("only called off", STATE, house("Hr1pg"), x -> x.promote(0));
    }

    private void set() {
        sentence("21", "Changes a setting.", "what: 0 to 4", "v: the new value, in its range", "Returns the previous one.",
            "Throws IllegalArgumentException if what or v is out of range");
        for (int what = 0; what <= 4; what++) {
            int w = what;
            int least = TermsEdges.SETTINGS[w][0];
            int most = TermsEdges.SETTINGS[w][1];
            range("set(" + w + ", v)", least, most, ARGUMENT, busyFull(), (x, v) -> x.set(w, v));
            due("the previous one at first", TermsEdges.SETTINGS[w][2], fresh(), x -> x.set(w, most));
            due("the previous one", most, fresh().then(x -> x.set(w, most)), x -> x.set(w, least));
            due("the new one", least, fresh().then(x -> x.set(w, most)).then(x -> x.set(w, least)), x -> x.setting(w));
            due("another one stays", TermsEdges.SETTINGS[(w + 1) % 5][2], fresh().then(x -> x.set(w, least)), x -> x.setting((w + 1) % 5));
        }
        range("set(what, 5)", 0, 4, ARGUMENT, busy(), (x, what) -> x.set(what, 5));
        beyond("set(what, -1)", 0, 4, ARGUMENT, busy(), (x, what) -> x.set(what, -1));
    }

    private void undo() {
        sentence("22", "Takes back the last action that is remembered.");
        Recipe three = two().then(x -> x.dark(1)).then(x -> x.dark(2)).then(x -> x.dark(4));
        due("the last one", 3, three.then(StandIns::undo), x -> x.about(2));
        due("the last two", 1, three.times(2, StandIns::undo), x -> x.about(2));
        due("all three", 0, three.times(3, StandIns::undo), x -> x.about(2));
        same("all of it", busy(), busy().then(StandIns::play).then(x -> x.addRole(1)).then(StandIns::addPlayer)
            .times(3, StandIns::undo));
        same("all of it again", busy(), busy().then(x -> x.ready(0, 0, 9)).then(x -> x.first(0, 2)).then(x -> x.set(0, 1))
            .times(3, StandIns::undo));
        due("an action behind it", 3 + 9, three.then(StandIns::undo).then(x -> x.dark(9)), x -> x.about(2));
        same("an action behind it, taken back", three.then(StandIns::undo),
            three.then(StandIns::undo).then(x -> x.dark(9)).then(StandIns::undo));
    }

    private void undoCounts() {
        sentence("22", "Returns how many states are still remembered.");
        for (int n = 1; n <= 16; n++) {
            due("of " + n, Math.min(n, 14) - 1, fresh().times(n, x -> x.dark(1)), StandIns::undo);
        }
        due("the last but one", 1, fresh().times(14, x -> x.dark(1)).times(12, StandIns::undo), StandIns::undo);
        due("the last one", 0, fresh().times(14, x -> x.dark(1)).times(13, StandIns::undo), StandIns::undo);
    }

    private void undoRefused() {
        sentence("22", "Throws IllegalStateException if none is remembered");
        refused("in a new object", STATE, fresh(), StandIns::undo);
        refused("behind load()", STATE, busyFull().then(StandIns::load), StandIns::undo);
        refused("behind restore()", STATE, busyFull().then(x -> x.restore(1)), StandIns::undo);
        refused("behind a call that throws", STATE, tried(fresh(), x -> x.dark(0)), StandIns::undo);
        refused("behind all that were remembered", STATE, busyFull().times(14, StandIns::undo), StandIns::undo);
        refused("behind the only one", STATE, fresh().then(x -> x.dark(1)).then(StandIns::undo), StandIns::undo);
        due("with one", 0, fresh().then(x -> x.dark(1)), StandIns::undo);
    }
}

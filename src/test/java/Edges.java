/** What the tests of the sentences share: each check makes its objects anew. */
abstract class Edges {
    interface Call {
        long on(StandIns x);
    }

    interface CallWith {
        long on(StandIns x, int v);
    }

    static final Class<? extends RuntimeException> BOUNDS = IndexOutOfBoundsException.class;
    static final Class<? extends RuntimeException> ARGUMENT = IllegalArgumentException.class;
    static final Class<? extends RuntimeException> STATE = IllegalStateException.class;
    static final int NONE = -1;
    static final int LEAST = Integer.MIN_VALUE;
    static final int GREATEST = Integer.MAX_VALUE;

    /** The worths of role 0: 75 30 20; of role 1: 6 22 10; so the cast is 0 and 1, with the strength 97. */
    static final String TWO = "Hr5r2pppy005y013y106y111y204y215f00f11";

    private final Tally tally;

    Edges(Tally tally) {
        this.tally = tally;
    }

    abstract void all();

    /** Begins the test of words that stand in a section of the document: "Terms", or a promise's number. */
    final void sentence(String section, String... words) {
        tally.begin(section, words);
    }

    // ---- houses

    static Recipe fresh() {
        return Recipe.fresh();
    }

    static Recipe text(String text) {
        return Recipe.text(text);
    }

    static Recipe house(String text) {
        return Recipe.house(text);
    }

    static Recipe two() {
        return Recipe.house(TWO);
    }

    /** Six roles and ten players who are ready for each role, to the degree 1; no first players, nothing remembered. */
    static Recipe full() {
        Recipe recipe = house("Hr1r2r3r4r5r9pppppppppp");
        for (int p = 0; p < 10; p++) {
            for (int r = 0; r < 6; r++) {
                int player = p;
                int role = r;
                recipe = recipe.then(x -> x.ready(player, role, 1));
            }
        }
        return recipe.then(x -> x.save(0)).then(x -> x.restore(0));
    }

    /**
     * The day 4, with nothing as in a new object: a text, days played and called off, days in a row, one who is away, a
     * posted cast, 11 remembered states, and two save slots that are different.
     */
    static Recipe busy() {
        return two().then(x -> x.set(1, 11)).then(StandIns::play).then(x -> x.away(0, 2)).then(x -> x.save(0))
            .then(StandIns::play).then(x -> x.away(1, 1)).then(StandIns::play).then(x -> x.first(1, 2))
            .then(StandIns::post).then(x -> x.save(1)).then(StandIns::play).then(StandIns::post).then(x -> x.away(1, 3));
    }

    /** As busy as that, with as many remembered states as there can be. */
    static Recipe busyFull() {
        return busy().then(x -> x.set(0, 6)).then(x -> x.set(1, 12)).then(x -> x.set(2, 3)).then(x -> x.set(3, 6))
            .then(x -> x.set(4, 16)).then(x -> x.set(1, 13)).then(x -> x.set(1, 14));
    }

    // ---- checks

    final void due(String what, long want, Recipe recipe, Call call) {
        String got = answer(recipe.make(), call);
        tally.check(got.equals(Long.toString(want)), what + " answered " + got + ", due is " + want);
    }

    private static String answer(StandIns x, Call call) {
        try {
            return Long.toString(call.on(x));
        } catch (RuntimeException e) {
            return "throws." + e.getClass().getSimpleName();
        }
    }

    /** The call throws that exception, and changes nothing. */
    final void refused(String what, Class<? extends RuntimeException> want, Recipe recipe, Call call) {
        String got = answer(recipe.make(), call);
        String due = "throws." + want.getSimpleName();
        tally.check(got.equals(due), what + " answered " + got + ", due is " + due);
        same(what + " changes nothing", recipe, tried(recipe, call));
    }

    /** Behind a call, whether it answers or throws. */
    static Recipe tried(Recipe recipe, Call call) {
        return recipe.then(x -> answer(x, call));
    }

    final void taken(String what, Recipe recipe, Call call) {
        String got = answer(recipe.make(), call);
        tally.check(!got.startsWith("throws."), what + " answered " + got + ", but it is in the range");
    }

    /** The least and the most are taken, and what is below and above is refused. */
    final void range(String what, int least, int most, Class<? extends RuntimeException> want, Recipe recipe, CallWith call) {
        for (int v : new int[] {least, most}) {
            taken(what + " with " + v, recipe, x -> call.on(x, v));
        }
        beyond(what, least, most, want, recipe, call);
    }

    final void beyond(String what, int least, int most, Class<? extends RuntimeException> want, Recipe recipe, CallWith call) {
        for (int v : new int[] {least - 1, most + 1, LEAST, GREATEST}) {
            refused(what + " with " + v, want, recipe, x -> call.on(x, v));
        }
    }

    final void same(String what, Recipe want, Recipe got) {
        String due = Whole.of(want);
        String is = Whole.of(got);
        tally.check(due.equals(is), what + ":\n--- got\n" + is + "\n--- due\n" + due);
    }

    final void differ(String what, Recipe one, Recipe other) {
        tally.check(!Whole.of(one).equals(Whole.of(other)), what + ": nothing is different");
    }

    /** The call answers, and changes nothing. */
    final void keeps(String what, Recipe recipe, Call call) {
        taken(what, recipe, call);
        same(what + " changes nothing", recipe, tried(recipe, call));
    }

    /** The call is an action: it can be taken back, and then all is as before. */
    final void action(String what, Recipe recipe, Call call) {
        int remembered = Whole.remembered(recipe.make());
        Recipe done = recipe.then(call::on);
        taken(what, recipe, call);
        due("undo() of " + what, Math.min(13, remembered), done, StandIns::undo);
        if (remembered < 14) {
            same("behind undo() of " + what, recipe, done.then(StandIns::undo));
        }
    }

    /** Who plays the roles today. */
    final void cast(String what, Recipe recipe, int... want) {
        for (int r = 0; r < want.length; r++) {
            int role = r;
            due(what + ", role(" + r + ", 2)", want[r], recipe, x -> x.role(role, 2));
        }
    }

    /** What the players got. */
    final void pays(String what, Recipe recipe, int... want) {
        for (int p = 0; p < want.length; p++) {
            int player = p;
            due(what + ", player(" + p + ", 0)", want[p], recipe, x -> x.player(player, 0));
        }
    }
}

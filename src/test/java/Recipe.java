/** How an object is made: what a call does to one object can be compared with another one that is made alike. */
final class Recipe {
    interface Step {
        void on(StandIns x);
    }

    private final Recipe before;
    private final Step step;

    private Recipe(Recipe before, Step step) {
        this.before = before;
        this.step = step;
    }

    static Recipe fresh() {
        return new Recipe(null, x -> { });
    }

    /** An object with this text, which is not loaded. */
    static Recipe text(String text) {
        return fresh().then(x -> Checks.put(x, text));
    }

    /** A house from a text that leaves no command out. */
    static Recipe house(String text) {
        return text(text).then(x -> {
            if (x.load() != 0) {
                throw new IllegalArgumentException("a command is left out: " + text);
            }
        });
    }

    Recipe then(Step next) {
        return new Recipe(this, next);
    }

    Recipe times(int n, Step next) {
        Recipe recipe = this;
        for (int i = 0; i < n; i++) {
            recipe = recipe.then(next);
        }
        return recipe;
    }

    StandIns make() {
        StandIns x = before == null ? new StandIns() : before.make();
        step.on(x);
        return x;
    }
}

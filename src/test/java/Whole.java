/**
 * All that can be learned of an object, the remembered states, the save slots and the text too. Much of it is read by
 * changing the object, so each part is read from an object of its own.
 */
final class Whole {
    private Whole() {
    }

    static String of(Recipe recipe) {
        StringBuilder s = new StringBuilder("now: ").append(Snapshot.of(recipe.make()));
        int remembered = remembered(recipe.make());
        s.append("\nremembered: ").append(remembered);
        for (int n = 1; n <= remembered; n++) {
            s.append("\n").append(n).append(" taken back: ").append(Snapshot.of(recipe.times(n, StandIns::undo).make()));
        }
        for (int slot = 0; slot < 2; slot++) {
            s.append("\nslot ").append(slot).append(": ").append(slot(recipe.make(), slot));
        }
        s.append("\ntext: ").append(recipe.make().clearText());
        return s.append(", loaded: ").append(loaded(recipe.make())).toString();
    }

    static int remembered(StandIns x) {
        for (int n = 0; n < 100; n++) {
            try {
                x.undo();
            } catch (IllegalStateException e) {
                return n;
            }
        }
        return 100;
    }

    private static String slot(StandIns x, int slot) {
        try {
            x.restore(slot);
            return Snapshot.of(x);
        } catch (IllegalStateException e) {
            return "empty";
        }
    }

    private static String loaded(StandIns x) {
        try {
            return x.load() + " left out, " + Snapshot.of(x);
        } catch (IllegalStateException e) {
            return "no house";
        }
    }
}

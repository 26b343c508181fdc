/** Promises 30 and 31: save slots. */
final class SlotEdges extends Edges {
    SlotEdges(Tally tally) {
        super(tally);
    }

    @Override
    void all() {
        slotCalls();
        save();
        saveRefused();
        restore();
        restoreForgets();
        slotKeepsIt();
        restoreRefused();
        restoreEmpty();
    }

    private void slotCalls() {
        sentence("Terms", "Ahead of the calls save, restore the interface says: ---- save slots.");
        due("save(0) changes no state", 11, busy().then(x -> x.save(0)), Whole::remembered);
        due("save(0) keeps the text", TWO.length(), busy().then(x -> x.save(0)), StandIns::clearText);
        due("restore(0) keeps the text", TWO.length(), busy().then(x -> x.restore(0)), StandIns::clearText);
        same("save() of what is restored", busy().then(x -> x.restore(0)), busy().then(x -> x.restore(0)).then(x -> x.save(0)));
    }

    private void save() {
        sentence("30", "Stores the present state in a save slot.", "slot: 0 or 1", "Returns today.");
        for (int slot = 0; slot < 2; slot++) {
            int s = slot;
            due("today at first", 0, fresh(), x -> x.save(s));
            due("today", 99, two().then(x -> x.dark(99)), x -> x.save(s));
            same("the present state", two().times(3, StandIns::play).then(x -> x.save(0)).then(x -> x.save(1)).then(x -> x.restore(0)),
                two().times(3, StandIns::play).then(x -> x.save(s)).then(x -> x.dark(9)).then(x -> x.restore(s))
                    .then(x -> x.save(1 - s)));
            due("instead of the one before", 8, two().then(x -> x.save(s)).then(x -> x.dark(8)).then(x -> x.save(s))
                .then(x -> x.dark(1)), x -> x.restore(s));
            due("not in the other slot", 5, two().then(x -> x.dark(5)).then(x -> x.save(1 - s)).then(x -> x.dark(8))
                .then(x -> x.save(s)), x -> x.restore(1 - s));
            due("a full house", 10, full().then(x -> x.save(s)).then(StandIns::load).then(x -> x.save(s)).then(x -> x.restore(s)),
                x -> x.about(1));
        }
        due("what is posted", 1, two().then(StandIns::post).then(x -> x.save(0)).then(StandIns::play).then(x -> x.restore(0)),
            x -> x.about(6));
        due("which cast is posted", 0, two().then(StandIns::post).then(x -> x.save(0)).then(x -> x.away(0, 1)).then(StandIns::post)
            .then(x -> x.restore(0)), x -> x.role(0, 3));
        due("that nothing is posted", 0, two().then(x -> x.save(0)).then(StandIns::post).then(x -> x.restore(0)), x -> x.about(6));
    }

    private void saveRefused() {
        sentence("30", "Throws IndexOutOfBoundsException if there is no such save slot");
        range("save(slot)", 0, 1, BOUNDS, busy(), StandIns::save);
        range("save(slot) of a new object", 0, 1, BOUNDS, fresh(), StandIns::save);
    }

    private void restore() {
        sentence("31", "Replaces the state by the one in a save slot,", "slot: 0 or 1", "Returns today then.");
        for (int slot = 0; slot < 2; slot++) {
            int s = slot;
            Recipe saved = busy().then(x -> x.save(s));
            due("today", 4, saved.then(x -> x.dark(9)), x -> x.restore(s));
            due("today then", 4, saved.then(x -> x.dark(9)).then(x -> x.restore(s)), x -> x.about(2));
            same("all that an object has", saved.then(x -> x.restore(s)), saved.then(StandIns::play).then(x -> x.addRole(9))
                .then(StandIns::addPlayer).then(x -> x.ready(0, 0, 1)).then(x -> x.first(0, 1)).then(x -> x.set(0, 1))
                .then(x -> x.set(1, 1)).then(x -> x.set(2, 1)).then(x -> x.set(3, 1)).then(x -> x.set(4, 1))
                .then(x -> x.dark(50)).then(x -> x.away(2, 9)).then(x -> x.restore(s)));
        }
        due("an empty house", 0, fresh().then(x -> x.save(0)).then(x -> x.addRole(1)).then(x -> x.restore(0)), x -> x.about(0));
    }

    private void restoreForgets() {
        sentence("31", "and forgets all remembered states.");
        for (int n = 0; n <= 15; n++) {
            Recipe days = two().then(x -> x.save(1)).times(n, x -> x.dark(1)).then(x -> x.restore(1));
            refused("undo() of " + n, STATE, days, StandIns::undo);
            due("an action behind it", 0, days.then(x -> x.dark(1)), StandIns::undo);
            due("fourteen behind it", 14, days.times(15, x -> x.dark(1)), Whole::remembered);
        }
    }

    private void slotKeepsIt() {
        sentence("31", "The save slot keeps it.");
        for (int slot = 0; slot < 2; slot++) {
            int s = slot;
            Recipe once = busy().then(x -> x.save(s)).then(x -> x.restore(s));
            same("restored twice", once, once.then(x -> x.restore(s)));
            same("restored behind changes", once, once.then(StandIns::play).then(x -> x.set(1, 1)).then(x -> x.ready(0, 0, 1))
                .then(StandIns::post).then(x -> x.away(0, 9)).then(x -> x.restore(s)));
            due("undo() does not reach it", 4, once.then(x -> x.dark(1)).then(StandIns::undo).then(x -> x.dark(4)), x -> x.restore(s));
        }
    }

    private void restoreRefused() {
        sentence("31", "Throws IndexOutOfBoundsException if there is no such save slot");
        range("restore(slot)", 0, 1, BOUNDS, busyFull(), StandIns::restore);
        beyond("restore(slot) with nothing saved", 0, 1, BOUNDS, fresh(), StandIns::restore);
    }

    private void restoreEmpty() {
        sentence("31", "Throws IllegalStateException if nothing has been saved in it since the last load");
        for (int slot = 0; slot < 2; slot++) {
            int s = slot;
            refused("nothing saved", STATE, fresh(), x -> x.restore(s));
            refused("nothing saved in it", STATE, two().then(x -> x.save(1 - s)), x -> x.restore(s));
            due("saved", 0, two().then(x -> x.save(s)), x -> x.restore(s));
            Recipe loaded = busy().then(StandIns::load);
            refused("nothing saved since the load", STATE, loaded, x -> x.restore(s));
            refused("nothing saved in it since the load", STATE, loaded.then(x -> x.save(1 - s)), x -> x.restore(s));
            due("saved since the load", 4, loaded.then(x -> x.dark(4)).then(x -> x.save(s)), x -> x.restore(s));
            Recipe refusedLoad = tried(busy().then(x -> x.append('x')), StandIns::load);
            taken("a load that is refused empties nothing", refusedLoad, x -> x.restore(s));
            refused("a refused save() saves nothing", STATE, tried(fresh(), x -> x.save(2)), x -> x.restore(s));
        }
    }
}

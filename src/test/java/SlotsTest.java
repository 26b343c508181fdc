/** Promises 30 and 31: save slots. */
public final class SlotsTest {
    private static final Checks T = new Checks("SlotsTest");
    private static final String TWO = "Hr5r2pppy005y013y106y111y204y215f00f11";

    public static void main(String[] args) {
        save();
        restore();
        restoreAll();
        T.end();
    }

    private static void save() {
        StandIns x = new StandIns();
        T.due("30: save(0)", 0, () -> x.save(0));
        x.dark(7);
        T.due("30: save(1)", 7, () -> x.save(1));
        T.due("30: save(0) again", 7, () -> x.save(0));
        T.outOfBounds("30: save(2)", () -> x.save(2));
        T.outOfBounds("30: save(-1)", () -> x.save(-1));
        T.outOfBounds("30: save(least)", () -> x.save(Integer.MIN_VALUE));
        T.due("30: it is no action", 0, x::undo);
        T.due("30: the slot is not taken back", 7, () -> x.restore(0));
    }

    private static void restore() {
        StandIns x = new StandIns();
        T.badState("31: restore(0) of nothing", () -> x.restore(0));
        T.outOfBounds("31: restore(2)", () -> x.restore(2));
        T.outOfBounds("31: restore(-1)", () -> x.restore(-1));
        x.dark(3);
        x.save(0);
        T.badState("31: restore(1) of nothing", () -> x.restore(1));
        T.due("31: what throws keeps the states", 0, x::undo);
        x.dark(1);
        x.dark(1);
        T.due("31: restore(0)", 3, () -> x.restore(0));
        T.due("31: today", 3, () -> x.about(2));
        T.badState("31: all states are forgotten", x::undo);
        x.dark(5);
        T.due("31: an action behind it", 0, x::undo);
        x.dark(6);
        T.due("31: the slot keeps it", 3, () -> x.restore(0));
        x.dark(6);
        x.save(1);
        T.due("31: restore(0) is not the slot 1", 3, () -> x.restore(0));
        T.due("31: restore(1)", 9, () -> x.restore(1));
        x.append('H');
        x.append('p');
        x.restore(0);
        T.due("31: the text stays", 2, x::clearText);
        x.append('H');
        x.load();
        T.badState("31: nothing saved since the load", () -> x.restore(0));
        T.badState("31: nor in the other slot", () -> x.restore(1));
        x.save(1);
        T.due("31: saved since the load", 0, () -> x.restore(1));
        T.badState("31: but not in the other slot", () -> x.restore(0));
    }

    private static void restoreAll() {
        Recipe saved = Recipe.house(TWO).then(x -> x.set(4, 33)).then(StandIns::play).then(x -> x.away(0, 4))
            .then(StandIns::play).then(x -> x.away(1, 2)).then(x -> x.first(1, 2)).then(x -> x.ready(1, 0, 2))
            .then(x -> x.away(0, 1)).then(x -> x.away(1, 1)).then(x -> x.dark(1)).then(StandIns::play)
            .then(StandIns::post).then(x -> x.away(1, 5)).then(x -> x.save(1));
        Recipe later = saved.then(StandIns::play).then(x -> x.away(0, 1)).then(x -> x.away(1, 1)).then(x -> x.away(2, 1))
            .then(StandIns::play).then(x -> x.addRole(9)).then(StandIns::addPlayer).then(x -> x.ready(0, 0, 1))
            .then(x -> x.first(0, 1)).then(x -> x.set(0, 1)).then(x -> x.set(1, 1)).then(x -> x.set(2, 1))
            .then(x -> x.dark(50)).then(x -> x.save(0));
        String due = Snapshot.of(saved.make());
        String dueLater = Snapshot.of(later.make());
        Recipe back = later.then(x -> x.restore(1));
        T.same("31: all is as it was saved", due, Snapshot.of(back.make()));
        Recipe backLater = back.then(StandIns::play).then(x -> x.dark(1)).then(x -> x.restore(0));
        T.same("31: all is as it was saved later", dueLater, Snapshot.of(backLater.make()));
        T.same("31: and as it was saved before", due, Snapshot.of(backLater.then(x -> x.restore(1)).make()));
    }
}

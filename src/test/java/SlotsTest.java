/** Promises 30 and 31: save slots. */
public final class SlotsTest {
    private static final Checks T = new Checks("SlotsTest");
    private static final String TWO = "Hr5r2pppy005y013y106y111y204y215f00f11";

    public static void main(String[] args) {
        save();
        restore();
        restoreAll();
        T.end();
    }

    private static void save() {
        StandIns x = new StandIns();
        T.due("30: save(0)", 0, () -> x.save(0));
        x.dark(7);
        T.due("30: save(1)", 7, () -> x.save(1));
        T.due("30: save(0) again", 7, () -> x.save(0));
        T.outOfBounds("30: save(2)", x, () -> x.save(2));
        T.outOfBounds("30: save(-1)", x, () -> x.save(-1));
        T.outOfBounds("30: save(least)", x, () -> x.save(Integer.MIN_VALUE));
        T.due("30: it is no action", 0, x::undo);
        T.due("30: the slot is not taken back", 7, () -> x.restore(0));
    }

    private static void restore() {
        StandIns x = new StandIns();
        T.badState("31: restore(0) of nothing", x, () -> x.restore(0));
        T.outOfBounds("31: restore(2)", x, () -> x.restore(2));
        T.outOfBounds("31: restore(-1)", x, () -> x.restore(-1));
        x.dark(3);
        x.save(0);
        T.badState("31: restore(1) of nothing", x, () -> x.restore(1));
        T.due("31: what throws keeps the states", 0, x::undo);
        x.dark(1);
        x.dark(1);
        T.due("31: restore(0)", 3, () -> x.restore(0));
        T.due("31: today", 3, () -> x.about(2));
        T.badState("31: all states are forgotten", x, x::undo);
        x.dark(5);
        T.due("31: an action behind it", 0, x::undo);
        x.dark(6);
        T.due("31: the slot keeps it", 3, () -> x.restore(0));
        x.dark(6);
        x.save(1);
        T.due("31: restore(0) is not the slot 1", 3, () -> x.restore(0));
        T.due("31: restore(1)", 9, () -> x.restore(1));
        x.append('H');
        x.append('p');
        x.restore(0);
        T.due("31: the text stays", 2, x::clearText);
        x.append('H');
        x.load();
        T.badState("31: nothing saved since the load", x, () -> x.restore(0));
        T.badState("31: nor in the other slot", x, () -> x.restore(1));
        x.save(1);
        T.due("31: saved since the load", 0, () -> x.restore(1));
        T.badState("31: but not in the other slot", x, () -> x.restore(0));
    }

    private static void restoreAll() {
        StandIns x = Checks.house(TWO);
        x.set(4, 33);
        x.play();
        x.away(0, 4);
        x.play();
        x.away(1, 2);
        x.first(1, 2);
        x.ready(1, 0, 2);
        x.away(0, 1);
        x.away(1, 1);
        x.dark(1);
        x.play();
        x.post();
        x.away(1, 5);
        String saved = Snapshot.of(x);
        x.save(1);
        x.play();
        x.away(0, 1);
        x.away(1, 1);
        x.away(2, 1);
        x.play();
        x.addRole(9);
        x.addPlayer();
        x.ready(0, 0, 1);
        x.first(0, 1);
        for (int what = 0; what <= 4; what++) {
            x.set(what, 1);
        }
        x.dark(50);
        String later = Snapshot.of(x);
        x.save(0);
        x.restore(1);
        T.same("31: all is as it was saved", saved, Snapshot.of(x));
        x.play();
        x.dark(1);
        x.restore(0);
        T.same("31: all is as it was saved later", later, Snapshot.of(x));
        x.restore(1);
        T.same("31: and as it was saved before", saved, Snapshot.of(x));
    }
}

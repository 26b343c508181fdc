/** Promises 23 to 27: what would be. */
public final class WouldBeTest {
    private static final Checks T = new Checks("WouldBeTest");
    // worths: role 0: 75 30 20; role 1: 6 22 10; so the cast is 0 and 1, with the strength 97
    private static final String TWO = "Hr5r2pppy005y013y106y111y204y215f00f11";

    public static void main(String[] args) {
        strength();
        without();
        missed();
        coming();
        comingChangesNothing();
        degreeFor();
        T.end();
    }

    private static void strength() {
        T.due("23: without roles", 0, () -> new StandIns().strength());
        T.due("23: without roles, with a player", 0, () -> Checks.house("Hp").strength());
        T.due("23: without players", -1, () -> Checks.house("Hr1").strength());
        T.due("23: nobody can play it", -1, () -> Checks.house("Hr1p").strength());
        T.due("23: nobody can play it, also as the first one", -1, () -> Checks.house("Hr1pf00").strength());
        T.due("23: the least", 1, () -> Checks.house("Hr1py001").strength());
        T.due("23: the greatest of one role", 171, () -> Checks.house("Hr9py009f00").strength());
        T.due("23: two roles", 97, () -> Checks.house(TWO).strength());
        T.due("23: one for two roles", -1, () -> Checks.house("Hr1r1py009y019").strength());
        T.due("23: six of ten", 171 * 5 + 19, () -> {
            StandIns x = Checks.house("Hr9r9r9r9r9r1pppppppppp");
            for (int r = 0; r < 6; r++) {
                for (int p = 0; p < 10; p++) {
                    x.ready(p, r, 9);
                }
                x.first(r, 9 - r);
            }
            return x.strength();
        });
        StandIns x = Checks.house(TWO);
        x.away(0, 1);
        T.due("23: without the one who is away", 42, x::strength);
        x.play();
        T.due("23: with the one who is back", 97, x::strength);
    }

    private static void without() {
        StandIns x = Checks.house(TWO);
        T.due("24: without(0)", 42, () -> x.without(0));
        T.due("24: without(1)", 85, () -> x.without(1));
        T.due("24: without(2)", 97, () -> x.without(2));
        T.due("24: it changes nothing", 97, x::strength);
        x.away(1, 2);
        T.due("24: without(0) and 1", -1, () -> x.without(0));
        T.due("24: without(1) and 1", 85, () -> x.without(1));
        T.outOfBounds("24: without(3)", () -> x.without(3));
        T.outOfBounds("24: without(-1)", () -> x.without(-1));
        T.due("24: without roles", 0, () -> Checks.house("Hp").without(0));
        StandIns none = new StandIns();
        T.outOfBounds("24: without players", () -> none.without(0));
    }

    private static void missed() {
        T.due("25: no role, no player", -1, () -> new StandIns().missed());
        T.due("25: no role", -1, () -> Checks.house("Hp").missed());
        T.due("25: no player", -1, () -> Checks.house("Hr1").missed());
        T.due("25: no cast", -1, () -> Checks.house("Hr1r1py001y011").missed());
        T.due("25: the weakest one", 0, () -> Checks.house(TWO).missed());
        T.due("25: the weakest one of others", 1, () -> Checks.house("Hr1pppy001y103y202").missed());
        T.due("25: of several without a cast the lowest one", 0, () -> Checks.house("Hr1r2ppy009y119").missed());
        T.due("25: without whom there is no cast", 2, () -> Checks.house("Hr1r9pppy001y102y211f02").missed());
        T.due("25: of several the lowest one", 0, () -> Checks.house("Hr1pppy005y105y205").missed());
        T.due("25: one who cannot play is missed as little as others", 0, () -> Checks.house("Hr1pppy105y205").missed());
        T.due("25: the lowest one must be free", 1, () -> Checks.house("Hr1pppy005y105y205a09").missed());
        T.due("25: the last one left", 2, () -> Checks.house("Hr1pppy205a09a19").missed());
        StandIns x = Checks.house(TWO);
        T.due("25: missed()", 0, x::missed);
        T.due("25: it changes nothing", 97, x::strength);
    }

    private static void coming() {
        StandIns none = Checks.house("Hp");
        T.badState("26: coming(1) without roles", () -> none.coming(1));
        T.badArgument("26: coming(0) without roles", () -> none.coming(0));
        StandIns x = Checks.house("Hr1py001");
        T.badArgument("26: coming(0)", () -> x.coming(0));
        T.badArgument("26: coming(31)", () -> x.coming(31));
        T.badArgument("26: coming(-1)", () -> x.coming(-1));
        T.due("26: coming(1)", 1, () -> x.coming(1));
        T.due("26: coming(5)", 0b11111, () -> x.coming(5));
        T.due("26: coming(7)", 0b1011111, () -> x.coming(7));
        x.set(0, 1);
        T.due("26: every other day", 0b010101, () -> x.coming(6));
        x.play();
        T.due("26: and the other ones", 0b101010, () -> x.coming(6));
        x.away(0, 4);
        T.due("26: away for four days", 0b01010000, () -> x.coming(8));
        T.due("26: thirty days", 0b010101010101010101010101010000, () -> x.coming(30));
        StandIns all = Checks.house("Hr1ppppppy001y101y201y301y401y501");
        T.due("26: all of thirty days", (1 << 30) - 1, () -> all.coming(30));
        T.due("26: nobody", 0, () -> Checks.house("Hr1").coming(30));
    }

    private static void comingChangesNothing() {
        StandIns x = Checks.house(TWO);
        x.set(1, 0);
        x.set(2, 0);
        x.set(3, 0);
        x.set(4, 0);
        T.due("26: a cast that gets nothing is a cast", 1, () -> x.coming(1));
        x.post();
        String before = Snapshot.of(x);
        x.coming(30);
        x.degreeFor(1, 0);
        x.without(0);
        x.missed();
        x.strength();
        T.same("23 to 27: they change nothing", before, Snapshot.of(x));
        T.due("23 to 27: they are no actions", 4, x::undo);
    }

    private static void degreeFor() {
        StandIns x = Checks.house("Hr2ppy005");
        T.due("27: as much as 0, who is lower, is not enough", 6, () -> x.degreeFor(1, 0));
        T.due("27: 0 plays with any", 1, () -> x.degreeFor(0, 0));
        x.ready(1, 0, 9);
        T.due("27: 9 of 1 is too much for 0, but as much is enough", 9, () -> x.degreeFor(0, 0));
        T.due("27: it keeps the degree", 5, () -> x.both(0, 0, 0));
        x.first(0, 1);
        T.due("27: none would do against the first one", -1, () -> x.degreeFor(0, 0));
        T.due("27: the first one plays with any", 1, () -> x.degreeFor(1, 0));
        x.away(1, 2);
        T.due("27: one who is away", -1, () -> x.degreeFor(1, 0));
        T.due("27: nobody else", 1, () -> x.degreeFor(0, 0));
        T.outOfBounds("27: degreeFor(2, 0)", () -> x.degreeFor(2, 0));
        T.outOfBounds("27: degreeFor(0, 1)", () -> x.degreeFor(0, 1));
        T.outOfBounds("27: degreeFor(-1, 0)", () -> x.degreeFor(-1, 0));
        T.outOfBounds("27: degreeFor(0, -1)", () -> x.degreeFor(0, -1));
        StandIns y = Checks.house(TWO);
        // 2 in role 0 and 1 in role 1 are 5 d + 22; 0 and 1 are 97
        T.due("27: never as good as the first one", -1, () -> y.degreeFor(2, 0));
        // 0 and 2 are 75 + 2 d; 0 and 1 are 97
        T.due("27: never as good in role 1", -1, () -> y.degreeFor(2, 1));
        y.ready(1, 1, 0);
        T.due("27: without the degree of 1", 1, () -> y.degreeFor(2, 1));
        T.due("27: with it", 1, () -> y.degreeFor(1, 1));
        T.due("27: no cast whatever the degree", -1, () -> Checks.house("Hr1r1py001").degreeFor(0, 1));
    }
}

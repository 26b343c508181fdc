/** Promises 23 to 27: what would be. */
final class WouldBeEdges extends Edges {
    WouldBeEdges(Tally tally) {
        super(tally);
    }

    @Override
    void all() {
        changeNothing();
        strength();
        strengthOfNone();
        without();
        withoutNone();
        withoutRefused();
        missed();
        missedTies();
        missedNone();
        coming();
        comingDays();
        comingRefused();
        degreeFor();
        degreeForNone();
        degreeForRefused();
    }

    private void changeNothing() {
        sentence("Terms", "Ahead of the calls strength, without, missed, coming, degreeFor the interface says: ---- what would be;"
            + " these and all following methods up to the save slots change nothing.");
        for (Recipe recipe : new Recipe[] {busy(), busyFull(), full().then(StandIns::post)}) {
            keeps("strength()", recipe, StandIns::strength);
            keeps("without(0)", recipe, x -> x.without(0));
            keeps("missed()", recipe, StandIns::missed);
            keeps("coming(30)", recipe, x -> x.coming(30));
            keeps("degreeFor(0, 0)", recipe, x -> x.degreeFor(0, 0));
            keeps("runScript of changes", recipe, x -> x.runScript(3, 1004_2010_3109L));
            keeps("runScript of days", recipe, x -> x.runScript(3, 4000_5000_6099L));
            keeps("simulate(1, 40)", recipe, x -> x.simulate(1, 40));
        }
    }

    private void strength() {
        sentence("23", "Tells how strong the cast of today is.", "Returns its strength,");
        due("two roles", 97, two(), StandIns::strength);
        due("the least", 1, house("Hr1py001"), StandIns::strength);
        due("the most of one", 171, house("Hr9py009f00"), StandIns::strength);
        due("six roles", 24, full(), StandIns::strength);
        due("the posted one does not count", 42, two().then(StandIns::post).then(x -> x.away(0, 1)), StandIns::strength);
    }

    private void strengthOfNone() {
        sentence("23", "0 without roles; NONE if there is no cast.");
        due("nothing", 0, fresh(), StandIns::strength);
        due("no roles", 0, house("Hp"), StandIns::strength);
        due("no roles, all away", 0, house("Hpa01"), StandIns::strength);
        due("no players", NONE, house("Hr1"), StandIns::strength);
        due("nobody who can play it", NONE, house("Hr1p"), StandIns::strength);
        due("away", NONE, house("Hr1py001a01"), StandIns::strength);
        due("too many days in a row", NONE, house("Hr1py001ggggg"), StandIns::strength);
        due("not too many", 1, house("Hr1py001gggg"), StandIns::strength);
        due("not enough players", NONE, house("Hr1r1py009y019"), StandIns::strength);
    }

    private void without() {
        sentence("24", "Tells how strong the cast of today would be without a player.", "p: player",
            "Returns its strength if p was away today,");
        due("without(0)", 42, two(), x -> x.without(0));
        due("without(1)", 85, two(), x -> x.without(1));
        due("one who does not play", 97, two(), x -> x.without(2));
        due("one who is away", 42, two().then(x -> x.away(0, 1)), x -> x.without(0));
        due("one who played too many days", 1, house("Hr1ppy002y101ggggg"), x -> x.without(0));
        due("another one played too many days", NONE, house("Hr1ppy002y101ggggg"), x -> x.without(1));
        for (int p = 0; p < 10; p++) {
            int player = p;
            Recipe recipe = full().then(x -> x.away(player, 1));
            due("as with away(" + p + ", 1)", recipe.make().strength(), full(), x -> x.without(player));
        }
        due("the last of ten", 24, full().then(x -> x.first(5, 9)), x -> x.without(9));
        due("with the last of ten", 24 + 90, full().then(x -> x.first(5, 9)), x -> x.without(0));
    }

    private void withoutNone() {
        sentence("24", "0 without roles; NONE if there was no cast.");
        due("no roles", 0, house("Hp"), x -> x.without(0));
        due("no roles, away", 0, house("Hpa01"), x -> x.without(0));
        due("the only one", NONE, house("Hr1py001"), x -> x.without(0));
        due("one of two", 1, house("Hr1ppy001y101"), x -> x.without(0));
        due("one of two for two roles", NONE, house("Hr1r1ppy001y011y101y111"), x -> x.without(1));
        due("no cast before", NONE, house("Hr1p"), x -> x.without(0));
    }

    private void withoutRefused() {
        sentence("24", "Throws IndexOutOfBoundsException if there is no such player");
        beyond("without(p)", 0, 2, BOUNDS, busy(), StandIns::without);
        range("without(p) of ten", 0, 9, BOUNDS, full(), StandIns::without);
        refused("of none", BOUNDS, house("Hr1"), x -> x.without(0));
        refused("of none, without roles", BOUNDS, fresh(), x -> x.without(0));
    }

    private void missed() {
        sentence("25", "Finds the player who is missed most.", "Returns the free player without whom there would be no cast,"
            + " or the weakest one,");
        due("the weakest cast", 0, two(), StandIns::missed);
        due("the weakest cast is that without 1", 1, house("Hr1pppy001y103y202"), StandIns::missed);
        due("no cast", 2, house("Hr1r9pppy001y102y211f02"), StandIns::missed);
        due("no cast is less than the weakest one", 2, house("Hr9r1pppy009y109f00y211"), StandIns::missed);
        due("the last of ten", 9, full().then(x -> x.first(5, 9)), StandIns::missed);
        due("the only one", 0, house("Hr1py001"), StandIns::missed);
        due("one more of two", 1, house("Hr1ppy001y102"), StandIns::missed);
    }

    private void missedTies() {
        sentence("25", "of several the lowest one;");
        due("without each no cast", 0, house("Hr1r2ppy009y119"), StandIns::missed);
        due("without each the same", 0, house("Hr1pppy005y105y205"), StandIns::missed);
        due("without each of ten the same", 0, full(), StandIns::missed);
        due("without the higher two no cast", 1, house("Hr1r1pppy101y211"), StandIns::missed);
        due("the lowest one who is free", 1, house("Hr1pppy005y105y205a09"), StandIns::missed);
        due("also one who cannot play", 0, house("Hr1pppy105y205"), StandIns::missed);
    }

    private void missedNone() {
        sentence("25", "NONE if there is no cast today, no role, or no free player.");
        due("nothing", NONE, fresh(), StandIns::missed);
        due("no role", NONE, house("Hp"), StandIns::missed);
        due("no role, no free player", NONE, house("Hpa01"), StandIns::missed);
        due("no player", NONE, house("Hr1"), StandIns::missed);
        due("no free player", NONE, house("Hr1py001a01"), StandIns::missed);
        due("no cast", NONE, house("Hr1p"), StandIns::missed);
        due("no cast with free players", NONE, house("Hr1r1ppy001y011"), StandIns::missed);
        due("no cast behind five days", NONE, house("Hr1py001ggggg"), StandIns::missed);
        due("a cast behind four days", 0, house("Hr1py001gggg"), StandIns::missed);
    }

    private void coming() {
        sentence("26", "Tells which days can be cast.", "Returns the days from today on, so many, on which there is a cast, if each"
            + " of them is played and nothing else is done;");
        due("five days in a row", 0b1011111, house("Hr1py001"), x -> x.coming(7));
        due("four of them are left", 0b1101111, house("Hr1py001g"), x -> x.coming(7));
        due("none of them is left", 0b0111110, house("Hr1py001ggggg"), x -> x.coming(7));
        due("away up to some day", 0b11100, house("Hr1py001a02"), x -> x.coming(5));
        due("those in turn", 0b1111, house("Hr1ppy001y101").then(x -> x.set(0, 1)), x -> x.coming(4));
        due("nine days in a row", 0b1011_1111_1110, house("Hr1py001a01").then(x -> x.set(0, 9)), x -> x.coming(12));
        due("nobody", 0, house("Hr1p"), x -> x.coming(30));
        due("as if played", coming(busy(), 30), busy(), x -> x.coming(30));
        due("as if played, in a full house", coming(full(), 30), full(), x -> x.coming(30));
    }

    private static int coming(Recipe recipe, int n) {
        StandIns x = recipe.make();
        int days = 0;
        for (int i = 0; i < n; i++) {
            days |= x.play() == NONE ? 0 : 1 << i;
        }
        return days;
    }

    private void comingDays() {
        sentence("26", "bit 0 set for today, bit 1 for the next day, and so on.");
        due("today", 1, house("Hr1py001"), x -> x.coming(1));
        due("not today", 0, house("Hr1py001a01"), x -> x.coming(1));
        due("the next day", 2, house("Hr1py001a01"), x -> x.coming(2));
        Recipe away = house("Hr1py001").then(x -> x.away(0, 29));
        due("the last of 30 days", 1 << 29, away, x -> x.coming(30));
        due("29 days", 0, away, x -> x.coming(29));
        due("the day behind 30", 0, house("Hr1py001").then(x -> x.away(0, 30)), x -> x.coming(30));
        due("all of 30 days", (1 << 30) - 1, house("Hr1ppy001y101"), x -> x.coming(30));
        for (int n = 1; n <= 30; n++) {
            int days = n;
            due("so many days", (1 << n) - 1, house("Hr1ppy001y101"), x -> x.coming(days));
        }
        due("bit 0 is today on a later day", 1, house("Hr1py001d9"), x -> x.coming(1));
    }

    private void comingRefused() {
        sentence("26", "n: 1 to 30", "Throws IllegalArgumentException if n is out of range",
            "Throws IllegalStateException if there are no roles");
        range("coming(n)", 1, 30, ARGUMENT, busy(), StandIns::coming);
        beyond("coming(n) without roles", 1, 30, ARGUMENT, house("Hp"), StandIns::coming);
        for (int n : new int[] {1, 30}) {
            refused("coming(" + n + ") without roles", STATE, house("Hp"), x -> x.coming(n));
            refused("coming(" + n + ") without anything", STATE, fresh(), x -> x.coming(n));
            due("coming(" + n + ") without players", 0, house("Hr1"), x -> x.coming(n));
        }
    }

    private void degreeFor() {
        sentence("27", "Tells which degree would do.", "p: player", "r: role",
            "Returns the smallest degree, 1 to 9, with which p would play r today;");
        due("nobody else", 1, house("Hr1p"), x -> x.degreeFor(0, 0));
        due("one who is the only one", 1, house("Hr1py009"), x -> x.degreeFor(0, 0));
        for (int other = 1; other <= 9; other++) {
            Recipe against = house("Hr1ppy00" + other + "y10" + other);
            due("the lower one against " + other, other, against, x -> x.degreeFor(0, 0));
            due("the higher one against " + other, other == 9 ? NONE : other + 1, against, x -> x.degreeFor(1, 0));
        }
        due("the first one", 1, house("Hr1ppy009f01"), x -> x.degreeFor(1, 0));
        due("the last of both", 2, full(), x -> x.degreeFor(9, 5));
        due("the first of both", 1, full(), x -> x.degreeFor(0, 0));
        due("less than that of today", 4, house("Hr1ppy003y109"), x -> x.degreeFor(1, 0));
        // d + 5 against 4 + 3, which is the lower cast
        due("what both can do in the other role counts", 3, house("Hr1r1ppy004y015y113"), x -> x.degreeFor(1, 0));
    }

    private void degreeForNone() {
        sentence("27", "NONE if there is none.");
        due("one who is away", NONE, house("Hr1py009a01"), x -> x.degreeFor(0, 0));
        due("one who is back", 1, house("Hr1py009a01d1"), x -> x.degreeFor(0, 0));
        due("one who played too many days", NONE, house("Hr1py009ggggg"), x -> x.degreeFor(0, 0));
        due("one who played one less", 1, house("Hr1py009gggg"), x -> x.degreeFor(0, 0));
        due("against the first one", NONE, house("Hr1ppy001f00"), x -> x.degreeFor(1, 0));
        due("against 9", NONE, house("Hr1ppy009"), x -> x.degreeFor(1, 0));
        due("against 8", 9, house("Hr1ppy008"), x -> x.degreeFor(1, 0));
        due("another role cannot be cast", NONE, house("Hr1r1py001"), x -> x.degreeFor(0, 1));
    }

    private void degreeForRefused() {
        sentence("27", "Throws IndexOutOfBoundsException if there is no such player or role");
        beyond("degreeFor(p, 0)", 0, 2, BOUNDS, busy(), (x, p) -> x.degreeFor(p, 0));
        beyond("degreeFor(0, r)", 0, 1, BOUNDS, busy(), (x, r) -> x.degreeFor(0, r));
        range("degreeFor(p, 5) of ten", 0, 9, BOUNDS, full(), (x, p) -> x.degreeFor(p, 5));
        range("degreeFor(9, r) of six", 0, 5, BOUNDS, full(), (x, r) -> x.degreeFor(9, r));
        refused("without roles", BOUNDS, house("Hp"), x -> x.degreeFor(0, 0));
        refused("without players", BOUNDS, house("Hr1"), x -> x.degreeFor(0, 0));
    }
}

/** Promises 6 to 11: what there is. */
final class ReadingEdges extends Edges {
    ReadingEdges(Tally tally) {
        super(tally);
    }

    @Override
    void all() {
        readingCalls();
        about();
        aboutRolesAndPlayers();
        aboutToday();
        aboutPerformances();
        aboutPay();
        aboutPosted();
        aboutStandIns();
        role();
        roleWeightAndFirst();
        rolePlayedToday();
        rolePosted();
        roleCandidates();
        noSuchRole();
        player();
        playerPayAndRow();
        playerAway();
        playerFree();
        playerPerformances();
        playerRole();
        noSuchPlayer();
        both();
        bothDegree();
        bothTimes();
        bothWorth();
        noSuchPlayerOrRole();
        setting();
        ranked();
        rankedPlaces();
        rankedTooMany();
        rankedNegative();
    }

    private void readingCalls() {
        sentence("Terms", "Ahead of the calls about, role, player, both, setting, ranked the interface says: ---- what there is.");
        keeps("about", busyFull(), x -> x.about(5));
        keeps("role", busyFull(), x -> x.role(1, 2));
        keeps("player", busyFull(), x -> x.player(1, 5));
        keeps("both", busyFull(), x -> x.both(1, 1, 2));
        keeps("setting", busyFull(), x -> x.setting(4));
        keeps("ranked", busyFull(), x -> x.ranked(1));
    }

    private void about() {
        sentence("6", "Returns a number.", "what:", "Returns that number.", "Throws IllegalArgumentException if what is not 0 to 7");
        range("about(what)", 0, 7, ARGUMENT, busy(), StandIns::about);
        range("about(what) in a new object", 0, 7, ARGUMENT, fresh(), StandIns::about);
    }

    private void aboutRolesAndPlayers() {
        sentence("6", "0: the roles; 1: the players;");
        due("no role", 0, house("Hp"), x -> x.about(0));
        due("no player", 0, house("Hr1"), x -> x.about(1));
        due("two roles", 2, two(), x -> x.about(0));
        due("three players", 3, two(), x -> x.about(1));
        due("six roles", 6, full(), x -> x.about(0));
        due("ten players", 10, full(), x -> x.about(1));
        due("six roles, and one more", 6, tried(full(), x -> x.addRole(1)), x -> x.about(0));
        due("ten players, and one more", 10, tried(full(), StandIns::addPlayer), x -> x.about(1));
    }

    private void aboutToday() {
        sentence("6", "2: today;");
        due("at first", 0, two(), x -> x.about(2));
        due("behind a performance", 1, two().then(StandIns::play), x -> x.about(2));
        due("behind dark(99)", 99, two().then(x -> x.dark(99)), x -> x.about(2));
        due("behind many of them", 100 * 99, fresh().times(100, x -> x.dark(99)), x -> x.about(2));
        due("behind undo()", 0, two().then(StandIns::play).then(StandIns::undo), x -> x.about(2));
    }

    private void aboutPerformances() {
        sentence("6", "3: the performances so far; 4: those that were called off so far;");
        Recipe played = two().then(StandIns::play);
        Recipe off = played.then(x -> x.away(0, 1)).then(x -> x.away(1, 1)).then(StandIns::play);
        due("none at first", 0, two(), x -> x.about(3));
        due("none called off at first", 0, two(), x -> x.about(4));
        due("one", 1, played, x -> x.about(3));
        due("none called off", 0, played, x -> x.about(4));
        due("one of two", 1, off, x -> x.about(3));
        due("one of two called off", 1, off, x -> x.about(4));
        due("none on dark days", 1, off.then(x -> x.dark(9)), x -> x.about(3));
        due("none called off on dark days", 1, off.then(x -> x.dark(9)), x -> x.about(4));
        due("two", 2, off.then(StandIns::play), x -> x.about(3));
    }

    private void aboutPay() {
        sentence("6", "5: what all players got so far;");
        due("nothing at first", 0, two(), x -> x.about(5));
        due("a day", 34, two().then(StandIns::play), x -> x.about(5));
        due("a day that is called off", 0, house("Hr1").then(StandIns::play), x -> x.about(5));
        due("two days", 68, two().times(2, StandIns::play), x -> x.about(5));
        Recipe most = full().then(x -> x.set(1, 99)).then(x -> x.set(2, 20)).then(x -> x.set(3, 50));
        due("six players", 6 * 149 + 24 * 20, most.then(StandIns::play), x -> x.about(5));
    }

    private void aboutPosted() {
        sentence("6", "6: 1 if a cast is posted, otherwise 0;");
        due("at first", 0, two(), x -> x.about(6));
        due("posted", 1, two().then(StandIns::post), x -> x.about(6));
        due("posted twice", 1, two().then(StandIns::post).then(StandIns::post), x -> x.about(6));
        due("posted, and no cast any more", 1, house("Hr1py001").then(StandIns::post).then(x -> x.ready(0, 0, 0)), x -> x.about(6));
        due("played", 0, two().then(StandIns::post).then(StandIns::play), x -> x.about(6));
        due("taken back", 0, two().then(StandIns::post).then(StandIns::undo), x -> x.about(6));
        due("refused", 0, tried(house("Hr1"), StandIns::post), x -> x.about(6));
    }

    private void aboutStandIns() {
        sentence("6", "7: how often someone played a role so far without being its first player then");
        due("at first", 0, two(), x -> x.about(7));
        due("the first ones", 0, two().then(StandIns::play), x -> x.about(7));
        due("one of two", 1, two().then(x -> x.away(0, 1)).then(StandIns::play), x -> x.about(7));
        Recipe none = house("Hr1r1ppy001y111").then(StandIns::play);
        due("two roles without first ones", 2, none, x -> x.about(7));
        due("who became the first one later", 2, none.then(x -> x.first(0, 0)), x -> x.about(7));
        due("who is the first one no more", 0, two().then(StandIns::play).then(x -> x.first(0, 2)), x -> x.about(7));
        due("called off", 0, house("Hr1").then(StandIns::play), x -> x.about(7));
        due("six roles", 12, full().times(2, StandIns::play), x -> x.about(7));
    }

    private void role() {
        sentence("7", "Returns a number of a role.", "r: role", "what:", "Returns that number.",
            "Throws IllegalArgumentException if what is not 0 to 4");
        range("role(0, what)", 0, 4, ARGUMENT, busy(), (x, what) -> x.role(0, what));
        range("role(5, what)", 0, 4, ARGUMENT, full(), (x, what) -> x.role(5, what));
    }

    private void roleWeightAndFirst() {
        sentence("7", "0: its weight; 1: its first player, NONE without one;");
        due("the least weight", 1, house("Hr1"), x -> x.role(0, 0));
        due("the greatest weight", 9, house("Hr1r9"), x -> x.role(1, 0));
        due("without a first one", NONE, house("Hr1p"), x -> x.role(0, 1));
        due("the lowest first one", 0, house("Hr1pf00"), x -> x.role(0, 1));
        due("the highest first one", 9, house("Hr1ppppppppppf09"), x -> x.role(0, 1));
        due("a role that is added later", NONE, house("Hr1pf00r1"), x -> x.role(1, 1));
    }

    private void rolePlayedToday() {
        sentence("7", "2: who plays it today, NONE if there is no cast;");
        cast("two roles", two(), 0, 1);
        cast("without 0", two().then(x -> x.away(0, 1)), 2, 1);
        cast("without 0 and 1", two().then(x -> x.away(0, 1)).then(x -> x.away(1, 1)), NONE, NONE);
        cast("no player", house("Hr1"), NONE);
        cast("the posted ones do not count", two().then(StandIns::post).then(x -> x.away(0, 1)), 2, 1);
    }

    private void rolePosted() {
        sentence("7", "3: who is posted for it, NONE if nothing is posted;");
        due("nothing posted", NONE, two(), x -> x.role(0, 3));
        due("posted", 0, two().then(StandIns::post), x -> x.role(0, 3));
        due("posted for 1", 1, two().then(StandIns::post), x -> x.role(1, 3));
        Recipe off = two().then(StandIns::post).then(x -> x.away(0, 1)).then(x -> x.away(1, 1));
        due("posted, and no cast any more", 0, off, x -> x.role(0, 3));
        due("on the next day", NONE, off.then(StandIns::play), x -> x.role(0, 3));
        due("taken back", NONE, two().then(StandIns::post).then(StandIns::undo), x -> x.role(1, 3));
    }

    private void roleCandidates() {
        sentence("7", "4: the free players who can play it");
        due("no player", 0, house("Hr1"), x -> x.role(0, 4));
        due("none who can", 0, house("Hr1pp"), x -> x.role(0, 4));
        due("the least degree", 1, house("Hr1ppy101"), x -> x.role(0, 4));
        due("the first one who cannot", 0, house("Hr1pf00"), x -> x.role(0, 4));
        due("one who is away", 1, house("Hr1ppy001y101a01"), x -> x.role(0, 4));
        due("one who played too many days", 1, house("Hr1ppy002y101ggggg"), x -> x.role(0, 4));
        due("one who plays another role", 2, two().then(x -> x.ready(2, 0, 0)), x -> x.role(0, 4));
        due("ten", 10, full(), x -> x.role(5, 4));
        due("without a cast", 1, house("Hr1r1py001y011"), x -> x.role(1, 4));
    }

    private void noSuchRole() {
        sentence("7", "Throws IndexOutOfBoundsException if there is no such role");
        beyond("role(r, 0)", 0, 1, BOUNDS, busy(), (x, r) -> x.role(r, 0));
        beyond("role(r, 5)", 0, 1, BOUNDS, busy(), (x, r) -> x.role(r, 5));
        beyond("role(r, 4) of six", 0, 5, BOUNDS, full(), (x, r) -> x.role(r, 4));
        refused("role(0, 0) of none", BOUNDS, house("Hp"), x -> x.role(0, 0));
        refused("role(0, -1) of none", BOUNDS, house("Hp"), x -> x.role(0, -1));
        refused("a role that was taken back", BOUNDS, house("Hr1").then(x -> x.addRole(1)).then(StandIns::undo), x -> x.role(1, 0));
    }

    private void player() {
        sentence("8", "Returns a number of a player.", "p: player", "what:", "Returns that number.",
            "Throws IllegalArgumentException if what is not 0 to 5");
        range("player(0, what)", 0, 5, ARGUMENT, busy(), (x, what) -> x.player(0, what));
        range("player(9, what)", 0, 5, ARGUMENT, full(), (x, what) -> x.player(9, what));
    }

    private void playerPayAndRow() {
        sentence("8", "0: the pay so far; 1: the days played in a row;");
        pays("at first", two(), 0, 0, 0);
        pays("two days", two().times(2, StandIns::play), 40, 28, 0);
        due("none in a row", 0, two(), x -> x.player(0, 1));
        due("two in a row", 2, two().times(2, StandIns::play), x -> x.player(0, 1));
        due("one who did not play", 0, two().times(2, StandIns::play), x -> x.player(2, 1));
        due("none behind a dark day", 0, two().times(2, StandIns::play).then(x -> x.dark(1)), x -> x.player(0, 1));
        pays("the pay stays", two().times(2, StandIns::play).then(x -> x.dark(1)), 40, 28, 0);
    }

    private void playerAway() {
        sentence("8", "2: the days that the player is still away (0: not away);");
        due("not away", 0, two(), x -> x.player(0, 2));
        due("a day", 1, two().then(x -> x.away(0, 1)), x -> x.player(0, 2));
        due("99 days", 99, two().then(x -> x.away(0, 99)), x -> x.player(0, 2));
        Recipe three = two().then(x -> x.dark(50)).then(x -> x.away(0, 3));
        due("three", 3, three, x -> x.player(0, 2));
        due("one left", 1, three.then(x -> x.dark(2)), x -> x.player(0, 2));
        due("none left", 0, three.then(x -> x.dark(3)), x -> x.player(0, 2));
        due("back for a day", 0, three.then(x -> x.dark(4)), x -> x.player(0, 2));
        due("long back", 0, three.then(x -> x.dark(99)), x -> x.player(0, 2));
        due("another player", 0, three, x -> x.player(1, 2));
    }

    private void playerFree() {
        sentence("8", "3: 1 if free today, otherwise 0;");
        due("free", 1, house("Hp"), x -> x.player(0, 3));
        due("away", 0, house("Hpa01"), x -> x.player(0, 3));
        due("back", 1, house("Hpa01d1"), x -> x.player(0, 3));
        due("four days in a row", 1, house("Hr1py001gggg"), x -> x.player(0, 3));
        due("five days in a row", 0, house("Hr1py001ggggg"), x -> x.player(0, 3));
        due("free, and not in the cast", 1, two(), x -> x.player(2, 3));
    }

    private void playerPerformances() {
        sentence("8", "4: the performances played so far;");
        due("none", 0, two(), x -> x.player(0, 4));
        due("two", 2, two().times(2, StandIns::play), x -> x.player(0, 4));
        due("none of two", 0, two().times(2, StandIns::play), x -> x.player(2, 4));
        due("five, and one that is called off", 5, house("Hr1py001gggggg"), x -> x.player(0, 4));
        due("six, with a dark day", 6, house("Hr1py001gggggd1g"), x -> x.player(0, 4));
        due("in two roles", 2, house("Hr1r1ppy001y011y101y111g").then(x -> x.ready(0, 0, 0)).then(StandIns::play), x -> x.player(0, 4));
    }

    private void playerRole() {
        sentence("8", "5: the role played today, NONE if none, or if there is no cast");
        due("the first role", 0, two(), x -> x.player(0, 5));
        due("the second role", 1, two(), x -> x.player(1, 5));
        due("none", NONE, two(), x -> x.player(2, 5));
        due("one who is away", NONE, two().then(x -> x.away(0, 1)), x -> x.player(0, 5));
        due("no cast", NONE, house("Hr1r1py001y011"), x -> x.player(0, 5));
        due("no role", NONE, house("Hp"), x -> x.player(0, 5));
        due("the last role", 5, full(), x -> x.player(5, 5));
        due("beyond the last role", NONE, full(), x -> x.player(6, 5));
    }

    private void noSuchPlayer() {
        sentence("8", "Throws IndexOutOfBoundsException if there is no such player");
        beyond("player(p, 0)", 0, 2, BOUNDS, busy(), (x, p) -> x.player(p, 0));
        beyond("player(p, 6)", 0, 2, BOUNDS, busy(), (x, p) -> x.player(p, 6));
        beyond("player(p, 5) of ten", 0, 9, BOUNDS, full(), (x, p) -> x.player(p, 5));
        refused("player(0, 0) of none", BOUNDS, house("Hr1"), x -> x.player(0, 0));
        refused("player(0, -1) of none", BOUNDS, house("Hr1"), x -> x.player(0, -1));
    }

    private void both() {
        sentence("9", "Returns a number of a player and a role.", "p: player", "r: role", "what:", "Returns that number.",
            "Throws IllegalArgumentException if what is not 0 to 2");
        range("both(0, 0, what)", 0, 2, ARGUMENT, busy(), (x, what) -> x.both(0, 0, what));
        range("both(9, 5, what)", 0, 2, ARGUMENT, full(), (x, what) -> x.both(9, 5, what));
    }

    private void bothDegree() {
        sentence("9", "0: the degree to which the player is ready for it;");
        due("at first", 0, house("Hr1p"), x -> x.both(0, 0, 0));
        due("the greatest", 9, house("Hr1py009"), x -> x.both(0, 0, 0));
        due("of the first one", 9, house("Hr1py009f00"), x -> x.both(0, 0, 0));
        Recipe corners = full().then(x -> x.ready(9, 0, 7)).then(x -> x.ready(0, 5, 8)).then(x -> x.ready(9, 5, 9));
        due("the last player, the first role", 7, corners, x -> x.both(9, 0, 0));
        due("the first player, the last role", 8, corners, x -> x.both(0, 5, 0));
        due("the last of both", 9, corners, x -> x.both(9, 5, 0));
        due("the first of both", 1, corners, x -> x.both(0, 0, 0));
    }

    private void bothTimes() {
        sentence("9", "1: how often the player played it so far;");
        due("at first", 0, two(), x -> x.both(0, 0, 1));
        due("three times", 3, two().times(3, StandIns::play), x -> x.both(0, 0, 1));
        due("the other role", 0, two().times(3, StandIns::play), x -> x.both(0, 1, 1));
        due("who cannot play it any more", 3, two().times(3, StandIns::play).then(x -> x.ready(0, 0, 0)), x -> x.both(0, 0, 1));
        due("called off", 5, house("Hr1py001gggggg"), x -> x.both(0, 0, 1));
        due("the last role", 1, full().then(StandIns::play), x -> x.both(5, 5, 1));
        due("who did not play", 0, full().then(StandIns::play), x -> x.both(6, 5, 1));
    }

    private void bothWorth() {
        sentence("9", "2: the worth, 0 if the player cannot play it");
        due("the degree 0", 0, house("Hr9p"), x -> x.both(0, 0, 2));
        due("the degree 0 of the first one", 0, house("Hr9pf00"), x -> x.both(0, 0, 2));
        due("the degree 1", 9, house("Hr9py001"), x -> x.both(0, 0, 2));
        due("the degree 1 of the first one", 99, house("Hr9py001f00"), x -> x.both(0, 0, 2));
        due("the most", 171, house("Hr9py009f00"), x -> x.both(0, 0, 2));
        due("one who is away", 9, house("Hr9py001a01"), x -> x.both(0, 0, 2));
        due("one who played too many days", 9, house("Hr9py001ggggg"), x -> x.both(0, 0, 2));
    }

    private void noSuchPlayerOrRole() {
        sentence("9", "Throws IndexOutOfBoundsException if there is no such player or role");
        beyond("both(p, 0, 0)", 0, 2, BOUNDS, busy(), (x, p) -> x.both(p, 0, 0));
        beyond("both(0, r, 0)", 0, 1, BOUNDS, busy(), (x, r) -> x.both(0, r, 0));
        beyond("both(p, 0, 3)", 0, 2, BOUNDS, busy(), (x, p) -> x.both(p, 0, 3));
        beyond("both(0, r, -1)", 0, 1, BOUNDS, busy(), (x, r) -> x.both(0, r, -1));
        beyond("both(p, 5, 2) of ten", 0, 9, BOUNDS, full(), (x, p) -> x.both(p, 5, 2));
        beyond("both(9, r, 2) of six", 0, 5, BOUNDS, full(), (x, r) -> x.both(9, r, 2));
        refused("both(0, 0, 0) without roles", BOUNDS, house("Hp"), x -> x.both(0, 0, 0));
        refused("both(0, 0, 0) without players", BOUNDS, house("Hr1"), x -> x.both(0, 0, 0));
    }

    private void setting() {
        sentence("10", "Returns a setting.", "what: 0 to 4", "Returns that setting.",
            "Throws IllegalArgumentException if what is out of range");
        for (int what = 0; what <= 4; what++) {
            int w = what;
            due("setting(" + w + ") at first", TermsEdges.SETTINGS[w][2], fresh(), x -> x.setting(w));
            for (int v : new int[] {TermsEdges.SETTINGS[w][0], TermsEdges.SETTINGS[w][1]}) {
                due("setting(" + w + ")", v, fresh().then(x -> x.set(w, v)), x -> x.setting(w));
            }
        }
        range("setting(what)", 0, 4, ARGUMENT, busy(), StandIns::setting);
    }

    private void ranks(String what, Recipe recipe, int... want) {
        for (int k = 0; k < want.length; k++) {
            int place = k;
            due(what + ", ranked(" + k + ")", want[k], recipe, x -> x.ranked(place));
        }
    }

    private void ranked() {
        sentence("11", "Returns players by what they got.");
        ranks("the one paid is 2", house("Hr1pppy201g"), 2, 0, 1, NONE);
        ranks("two paid", two().then(StandIns::play), 0, 1, 2, NONE);
        ranks("another role is paid more", house("Hr1r9ppy001y111g"), 1, 0, NONE);
    }

    private void rankedPlaces() {
        sentence("11", "k: which one, from 0: the one who got most first, of several the lowest one");
        ranks("nobody paid", house("Hppp"), 0, 1, 2, NONE);
        ranks("ten not paid", full(), 0, 1, 2, 3, 4, 5, 6, 7, 8, 9, NONE);
        ranks("ten, six of them paid", full().then(StandIns::play), 5, 4, 3, 2, 1, 0, 6, 7, 8, 9, NONE);
        ranks("two paid the same", house("Hr1r1pppy101y211g"), 1, 2, 0, NONE);
        ranks("one unit more", house("Hr1r2pppy101y211g"), 2, 1, 0, NONE);
    }

    private void rankedTooMany() {
        sentence("11", "Returns that player; NONE if there are not so many.");
        due("the only one", 0, house("Hp"), x -> x.ranked(0));
        due("one more", NONE, house("Hp"), x -> x.ranked(1));
        due("of none", NONE, fresh(), x -> x.ranked(0));
        due("the tenth", 9, full(), x -> x.ranked(9));
        due("the eleventh", NONE, full(), x -> x.ranked(10));
        due("the greatest number", NONE, full(), x -> x.ranked(GREATEST));
    }

    private void rankedNegative() {
        sentence("11", "Throws IllegalArgumentException if k is negative");
        for (Recipe recipe : new Recipe[] {fresh(), busy(), full()}) {
            refused("ranked(-1)", ARGUMENT, recipe, x -> x.ranked(-1));
            refused("ranked(least)", ARGUMENT, recipe, x -> x.ranked(LEAST));
        }
        taken("ranked(0) of none", fresh(), x -> x.ranked(0));
    }
}

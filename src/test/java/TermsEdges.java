/** The sentences of "Terms" on roles and players, days, casts, performances and settings. */
final class TermsEdges extends Edges {
    /** The least and the most of each setting, and what it is at first. */
    static final int[][] SETTINGS = {{1, 9, 5}, {0, 99, 10}, {0, 20, 2}, {0, 50, 5}, {0, 99, 15}};

    TermsEdges(Tally tally) {
        super(tally);
    }

    @Override
    void all() {
        whatItIs();
        mostCalls();
        whatItTells();
        mostRolesAndPlayers();
        weightAndFirstPlayer();
        degrees();
        degreeZero();
        worth();
        worthOfFirstPlayer();
        dayZero();
        awayUpToSomeDay();
        daysInARow();
        freeToday();
        freeInACast();
        anotherPlayerForEachRole();
        greatestSum();
        lowestOfSeveral();
        noCast();
        dayIsPlayed();
        pay();
        extra();
        nextDay();
        posted();
        lateFee();
        nothingPostedOnANewDay();
        settings();
    }

    private void whatItIs() {
        sentence("What it is", "Stand-ins of a theatre: roles with weights, players who are ready for roles, first players of roles,"
            + " casts for each day by who is there and has not played too many days in a row, casts that are posted, late calls when"
            + " someone falls out, days without a performance, pay by roles, promotions.");
        Recipe season = house("Hr5ppy005y106f00ggggg");
        due("five days of 0", 100, season, x -> x.about(5));
        due("the sixth one of 1", 1, season, x -> x.role(0, 2));
        Recipe late = season.then(StandIns::play).then(StandIns::post).then(x -> x.away(0, 1)).then(StandIns::play);
        pays("a late call", late, 100, 25 + 40);
        pays("dark days", late.then(x -> x.dark(9)), 100, 65);
        // 1 plays three days more, and one behind the day that is called off
        due("a promotion", 1, late.then(x -> x.away(0, 9)).times(5, StandIns::play), x -> x.promote(0));
    }

    private void mostCalls() {
        sentence("What it is", "An object is used for at most 512 calls after it has been made; what later calls answer is free.");
        due("today as the call 512", 511 * 99, fresh().times(511, x -> x.dark(99)), x -> x.about(2));
        due("undo() as the call 512", 13, fresh().times(511, x -> x.dark(99)), StandIns::undo);
        due("load() as the call 512", 0, fresh().times(510, StandIns::clearText).then(x -> x.append('H')), StandIns::load);
        // 13 calls for the house, 3 for the settings, and 495 days: nine of ten are played
        Recipe days = house("Hr9py001f00").then(x -> x.set(0, 9)).then(x -> x.set(1, 99)).then(x -> x.set(2, 20)).times(495, StandIns::play);
        due("the pay as the call 512", 446 * 279, days, x -> x.player(0, 0));
        due("the performances as the call 512", 446, days, x -> x.about(3));
        due("the other days as the call 512", 49, days, x -> x.about(4));
    }

    private void whatItTells() {
        sentence("Terms", "It tells who plays what today, how strong the cast is, what it would be without a player,"
            + " which days to come can be cast. Changes can be undone.");
        cast("who plays what", two(), 0, 1);
        due("strength()", 97, two(), StandIns::strength);
        due("without(0)", 42, two(), x -> x.without(0));
        due("coming(6)", 0b011111, two(), x -> x.coming(6));
        same("a change that is undone", two(), two().then(StandIns::play).then(StandIns::undo));
    }

    private void mostRolesAndPlayers() {
        sentence("Terms", "There are at most 6 roles and at most 10 players, numbered from 0.");
        for (int n = 0; n < 6; n++) {
            due("addRole with " + n, n, fresh().times(n, x -> x.addRole(1)), x -> x.addRole(1));
        }
        refused("a seventh role", STATE, fresh().times(6, x -> x.addRole(1)), x -> x.addRole(1));
        due("six roles", 6, full(), x -> x.about(0));
        for (int n = 0; n < 10; n++) {
            due("addPlayer with " + n, n, fresh().times(n, StandIns::addPlayer), StandIns::addPlayer);
        }
        refused("an eleventh player", STATE, fresh().times(10, StandIns::addPlayer), StandIns::addPlayer);
        due("ten players", 10, full(), x -> x.about(1));
        range("role", 0, 5, BOUNDS, full(), (x, r) -> x.role(r, 0));
        range("player", 0, 9, BOUNDS, full(), (x, p) -> x.player(p, 0));
        due("the last role's weight", 9, full(), x -> x.role(5, 0));
    }

    private void weightAndFirstPlayer() {
        sentence("Terms", "A role has a weight, 1 to 9, and may have a first player.");
        for (int weight = 1; weight <= 9; weight++) {
            int w = weight;
            due("the weight", w, fresh().then(x -> x.addRole(w)), x -> x.role(0, 0));
        }
        refused("the weight 0", ARGUMENT, fresh(), x -> x.addRole(0));
        refused("the weight 10", ARGUMENT, fresh(), x -> x.addRole(10));
        due("no first player", NONE, house("Hr1p"), x -> x.role(0, 1));
        due("a first player", 0, house("Hr1pf00"), x -> x.role(0, 1));
        due("the last one is the first one", 9, full().then(x -> x.first(5, 9)), x -> x.role(5, 1));
    }

    private void degrees() {
        sentence("Terms", "A player is ready for each role to some degree, 0 to 9, at first 0;");
        due("the degree at first", 0, house("Hr1p"), x -> x.both(0, 0, 0));
        due("the degree for a role that is added later", 0, house("Hpr1"), x -> x.both(0, 0, 0));
        for (int degree = 0; degree <= 9; degree++) {
            int d = degree;
            due("the degree", d, house("Hr1p").then(x -> x.ready(0, 0, d)), x -> x.both(0, 0, 0));
        }
        refused("the degree -1", ARGUMENT, house("Hr1p"), x -> x.ready(0, 0, -1));
        refused("the degree 10", ARGUMENT, house("Hr1p"), x -> x.ready(0, 0, 10));
    }

    private void degreeZero() {
        sentence("Terms", "with 0 the player cannot play it (also as the first one).");
        Recipe never = house("Hr9pf00");
        due("strength() with 0", NONE, never, StandIns::strength);
        due("play() with 0", NONE, never, StandIns::play);
        due("those who can play it", 0, never, x -> x.role(0, 4));
        due("the worth with 0", 0, never, x -> x.both(0, 0, 2));
        Recipe one = never.then(x -> x.ready(0, 0, 1));
        due("strength() with 1", 99, one, StandIns::strength);
        due("those who can play it with 1", 1, one, x -> x.role(0, 4));
        Recipe back = one.then(x -> x.ready(0, 0, 0));
        due("strength() with 0 again", NONE, back, StandIns::strength);
        cast("not the first one, but one who can", house("Hr9ppf00y101"), 1);
    }

    private void worth() {
        sentence("Terms", "The worth of a player in a role is its weight times the degree;");
        for (int weight = 1; weight <= 9; weight++) {
            for (int degree = 0; degree <= 9; degree++) {
                int want = weight * degree;
                Recipe recipe = house("Hr" + weight + "ppy10" + degree + "f00");
                due("weight " + weight + ", degree " + degree, want, recipe, x -> x.both(1, 0, 2));
                due("the strength of it", degree == 0 ? NONE : want, recipe, StandIns::strength);
            }
        }
    }

    private void worthOfFirstPlayer() {
        sentence("Terms", "for its first player the degree is taken 10 greater.");
        for (int weight = 1; weight <= 9; weight++) {
            for (int degree = 1; degree <= 9; degree++) {
                int want = weight * (degree + 10);
                Recipe recipe = house("Hr" + weight + "py00" + degree + "f00");
                due("weight " + weight + ", degree " + degree, want, recipe, x -> x.both(0, 0, 2));
                due("the strength of it", want, recipe, StandIns::strength);
                due("the degree of it", degree, recipe, x -> x.both(0, 0, 0));
            }
        }
        cast("1 as the first one, 9 as another", house("Hr1ppy009y101f01"), 1);
        due("the first one of another role only", 5, house("Hr1r1py005f10"), x -> x.both(0, 0, 2));
        due("the first one no more", 5, house("Hr1ppy005f00f01"), x -> x.both(0, 0, 2));
    }

    private void dayZero() {
        sentence("Terms", "Days are numbered from 0; today is the day 0 at first.");
        due("today", 0, fresh(), x -> x.about(2));
        due("today of a loaded house", 0, house("Hr1p"), x -> x.about(2));
        due("today behind a day", 1, fresh().then(x -> x.dark(1)), x -> x.about(2));
        due("today behind a performance", 1, two().then(StandIns::play), x -> x.about(2));
    }

    private void awayUpToSomeDay() {
        sentence("Terms", "A player may be away up to some day (on that day the player is back).");
        for (int days : new int[] {1, 2, 99}) {
            Recipe away = house("Hr1py001").then(x -> x.away(0, days));
            due("free on the first of " + days, 0, away, x -> x.player(0, 3));
            due("free on the last of " + days, 0, away.times(days - 1, x -> x.dark(1)), x -> x.player(0, 3));
            due("free on the day of the return", 1, away.times(days, x -> x.dark(1)), x -> x.player(0, 3));
            due("the cast of the last of " + days, NONE, away.times(days - 1, StandIns::play), StandIns::strength);
            due("the cast of the day of the return", 1, away.times(days, StandIns::play), StandIns::strength);
        }
    }

    private void daysInARow() {
        sentence("Terms", "A player has played so many days in a row as there are days right ahead of today on which the"
            + " player played.");
        Recipe nine = house("Hr1py001").then(x -> x.set(0, 9));
        for (int days = 0; days <= 9; days++) {
            due(days + " days played", days, nine.times(days, StandIns::play), x -> x.player(0, 1));
        }
        due("a day that is called off ends it", 0, nine.times(10, StandIns::play), x -> x.player(0, 1));
        due("then it begins again", 1, nine.times(11, StandIns::play), x -> x.player(0, 1));
        due("a dark day ends it", 0, nine.times(4, StandIns::play).then(x -> x.dark(1)), x -> x.player(0, 1));
        Recipe other = house("Hr1ppy002y101").then(StandIns::play).then(x -> x.away(0, 1)).then(StandIns::play);
        due("a day played by another one ends it", 0, other, x -> x.player(0, 1));
        due("and begins that one's", 1, other, x -> x.player(1, 1));
        due("one who was added later", 0, nine.times(3, StandIns::play).then(StandIns::addPlayer), x -> x.player(1, 1));
        Recipe roles = house("Hr1r1ppy001y011y101y111").then(StandIns::play).then(x -> x.ready(0, 0, 0));
        due("days in different roles", 2, roles.then(StandIns::play), x -> x.player(0, 1));
    }

    private void freeToday() {
        sentence("Terms", "A player is free today if not away, and if fewer days in a row than setting 0 were played.");
        for (int most = 1; most <= 9; most++) {
            int m = most;
            Recipe set = house("Hr1py001").then(x -> x.set(0, m));
            due(m - 1 + " of " + m, 1, set.times(m - 1, StandIns::play), x -> x.player(0, 3));
            due(m + " of " + m, 0, set.times(m, StandIns::play), x -> x.player(0, 3));
            due(m + " of " + m + " and a day", 1, set.times(m, StandIns::play).then(StandIns::play), x -> x.player(0, 3));
        }
        Recipe four = house("Hr1py001gggg");
        due("four of three", 0, four.then(x -> x.set(0, 3)), x -> x.player(0, 3));
        due("away, and fewer days", 0, four.then(x -> x.away(0, 1)), x -> x.player(0, 3));
        due("away, and as many days", 0, four.then(StandIns::play).then(x -> x.away(0, 1)), x -> x.player(0, 3));
        due("a new player", 1, house("Hp"), x -> x.player(0, 3));
    }

    private void freeInACast() {
        sentence("Terms", "A cast gives each role another player, who is free and can play it.");
        cast("both free", house("Hr1ppy009y101"), 0);
        cast("0 is away", house("Hr1ppy009y101a01"), 1);
        cast("0 has played four", house("Hr1ppy009y101gggg"), 0);
        cast("0 has played five", house("Hr1ppy009y101ggggg"), 1);
        cast("0 cannot play it", house("Hr1ppy101"), 1);
        cast("as many as there are roles", house("Hr1r1ppy011y101"), 1, 0);
        cast("nobody is free", house("Hr1py009a01"), NONE);
    }

    private void anotherPlayerForEachRole() {
        sentence("Terms", "A cast gives each role another player");
        due("one for two roles", NONE, house("Hr1r1py001y011"), StandIns::strength);
        due("two for three roles", NONE, house("Hr1r1r1ppy001y011y021y101y111y121"), StandIns::strength);
        due("two for two roles", 2, house("Hr1r1ppy001y011y101y111"), StandIns::strength);
        due("two who can play only the same", NONE, house("Hr1r1ppy001y101"), StandIns::strength);
        Recipe six = full();
        for (int p = 9; p > 5; p--) {
            int player = p;
            six = six.then(x -> x.away(player, 1));
        }
        due("six for six roles", 24, six, StandIns::strength);
        due("five for six roles", NONE, six.then(x -> x.away(5, 1)), StandIns::strength);
    }

    private void greatestSum() {
        sentence("Terms", "The cast of today is the one with the greatest sum of the worths (this is its strength)");
        // 8 + 9 against 9 + 7: the greatest worth of all is not in it
        cast("17 against 16", house("Hr1r1ppy009y019y108y117"), 1, 0);
        due("17 against 16", 17, house("Hr1r1ppy009y019y108y117"), StandIns::strength);
        cast("15 against 16", house("Hr1r1ppy009y018y107y117"), 0, 1);
        cast("one more for the highest player", house("Hr1pppy001y101y202"), 2);
        Recipe most = fresh();
        for (int p = 0; p < 10; p++) {
            most = most.then(StandIns::addPlayer);
        }
        for (int r = 0; r < 6; r++) {
            int role = r;
            most = most.then(x -> x.addRole(9)).then(x -> x.ready(9 - role, role, 9)).then(x -> x.first(role, 9 - role));
        }
        due("the greatest strength there is", 6 * 171, most, StandIns::strength);
        cast("the last players", most, 9, 8, 7, 6, 5, 4);
        due("the least strength there is", 1, house("Hr1py001"), StandIns::strength);
    }

    private void lowestOfSeveral() {
        sentence("Terms", "of several the one whose player of the role 0 is lowest, then of the role 1, and so on.");
        cast("all the same", full(), 0, 1, 2, 3, 4, 5);
        for (int r = 0; r < 6; r++) {
            lowestFrom(r);
        }
        // 0 1 and 1 0 are both 10, 2 would be less
        cast("as much either way", house("Hr1r1pppy004y014y106y116y201y211"), 0, 1);
        cast("one more the other way", house("Hr1r1pppy004y015y106y116y201y211"), 1, 0);
        cast("the role 0 first, then the role 1", house("Hr1r1pppy002y012y102y112y201y212"), 0, 1);
        cast("0 cannot play the role 0", house("Hr1r1pppy103y203y013y113y213"), 1, 0);
        // 0 2 and 1 0 are both 10
        cast("the lowest one for the role 0, not for the role 1", house("Hr1r1pppy005y105y015y215"), 0, 2);
    }

    /** The roles ahead of r are played by the highest players; from r on all are the same, and the lowest ones play. */
    private void lowestFrom(int r) {
        Recipe recipe = full();
        int[] want = new int[6];
        for (int role = 0; role < 6; role++) {
            int there = role;
            want[role] = role < r ? 9 - role : role - r;
            if (role < r) {
                recipe = recipe.then(x -> x.first(there, 9 - there));
            }
        }
        cast("the same from the role " + r, recipe, want);
        recipe = recipe.then(x -> x.away(0, 1));
        for (int role = r; role < 6; role++) {
            want[role]++;
        }
        cast("the same from the role " + r + " without 0", recipe, want);
    }

    private void noCast() {
        sentence("Terms", "There may be none.");
        due("no player", NONE, house("Hr1"), StandIns::strength);
        due("nobody who can play it", NONE, house("Hr1p"), StandIns::strength);
        due("somebody who can play it", 1, house("Hr1py001"), StandIns::strength);
        due("one role without anybody", NONE, house("Hr1r1ppy001y101"), StandIns::strength);
        Recipe last = full();
        for (int p = 0; p < 10; p++) {
            int player = p;
            last = last.then(x -> x.ready(player, 5, 0));
        }
        cast("nobody for the last of six", last, NONE, NONE, NONE, NONE, NONE, NONE);
    }

    private void dayIsPlayed() {
        sentence("Terms", "When a day is played, the cast of today plays, if there is one; otherwise the performance is"
            + " called off, and nobody plays.");
        Recipe played = two().then(StandIns::play);
        due("0 played 0", 1, played, x -> x.both(0, 0, 1));
        due("1 played 1", 1, played, x -> x.both(1, 1, 1));
        due("2 did not", 0, played, x -> x.player(2, 4));
        due("not called off", 0, played, x -> x.about(4));
        Recipe off = two().then(x -> x.away(0, 1)).then(x -> x.away(1, 1)).then(StandIns::play);
        due("called off", 1, off, x -> x.about(4));
        due("no performance", 0, off, x -> x.about(3));
        for (int p = 0; p < 3; p++) {
            int player = p;
            due("nobody plays", 0, off, x -> x.player(player, 4) + x.player(player, 1) + x.player(player, 0));
        }
        due("it goes on then", 1, off.then(StandIns::play), x -> x.about(3));
    }

    private void pay() {
        sentence("Terms", "Each one who plays gets the base, and for each unit of the weight of the role the rate;");
        for (int weight = 1; weight <= 9; weight++) {
            Recipe one = house("Hr" + weight + "py001f00");
            pays("weight " + weight, one.then(StandIns::play), 10 + 2 * weight);
            Recipe most = one.then(x -> x.set(1, 99)).then(x -> x.set(2, 20));
            pays("the most for weight " + weight, most.then(StandIns::play), 99 + 20 * weight);
            Recipe least = one.then(x -> x.set(1, 0)).then(x -> x.set(2, 0));
            pays("the least for weight " + weight, least.then(StandIns::play), 0);
        }
        pays("one who does not play", two().then(StandIns::play), 20, 14, 0);
        pays("several days", house("Hr3py001f00ggg"), 48);
    }

    private void extra() {
        sentence("Terms", "one who is not the first player of the role (also if it has none) gets the extra, too.");
        Recipe one = house("Hr1ppy001").then(x -> x.set(3, 50));
        pays("the first one", one.then(x -> x.first(0, 0)).then(StandIns::play), 12, 0);
        pays("not the first one", one.then(x -> x.first(0, 1)).then(StandIns::play), 62, 0);
        pays("without a first one", one.then(StandIns::play), 62, 0);
        pays("no extra", one.then(x -> x.set(3, 0)).then(StandIns::play), 12, 0);
        Recipe other = house("Hr1r1ppy001y111f01f10");
        pays("the first ones of each other's roles", other.then(StandIns::play), 17, 17);
    }

    private void nextDay() {
        sentence("Terms", "Then the next day begins.");
        due("behind a performance", 1, two().then(StandIns::play), x -> x.about(2));
        due("behind one that is called off", 1, house("Hr1").then(StandIns::play), x -> x.about(2));
        due("one day less away", 1, two().then(x -> x.away(0, 2)).then(StandIns::play), x -> x.player(0, 2));
    }

    private void posted() {
        sentence("Terms", "A cast can be posted: who plays each role today, as it is then.");
        Recipe changed = two().then(StandIns::post).then(x -> x.ready(0, 0, 0)).then(x -> x.first(1, 2));
        due("posted for 0", 0, changed, x -> x.role(0, 3));
        due("posted for 1", 1, changed, x -> x.role(1, 3));
        cast("who plays it now", changed, 1, 2);
        Recipe six = full().then(StandIns::post).then(x -> x.away(0, 9));
        for (int r = 0; r < 6; r++) {
            int role = r;
            due("posted for " + r + " of six", r, six, x -> x.role(role, 3));
        }
    }

    private void lateFee() {
        sentence("Terms", "If it is posted, and another one than the player who is posted for a role plays it when the day"
            + " is played (also one who is posted for another role), this one gets the late fee, too.");
        Recipe posted = two().then(x -> x.set(4, 99)).then(StandIns::post);
        pays("as posted", posted.then(StandIns::play), 20, 14, 0);
        Recipe late = posted.then(x -> x.away(0, 1));
        pays("2 for 0", late.then(StandIns::play), 0, 14, 25 + 99);
        pays("no fee", late.then(x -> x.set(4, 0)).then(StandIns::play), 0, 14, 25);
        pays("nothing posted", two().then(x -> x.away(0, 1)).then(StandIns::play), 0, 14, 25);
        pays("posted again", late.then(StandIns::post).then(StandIns::play), 0, 14, 25);
        Recipe changed = house("Hr1r1ppy009y011y101y119").then(StandIns::post)
            .then(x -> x.ready(0, 0, 1)).then(x -> x.ready(0, 1, 9)).then(x -> x.ready(1, 0, 9));
        pays("both posted, each for the other role", changed.then(StandIns::play), 12 + 5 + 15, 12 + 5 + 15);
        Recipe first = house("Hr9ppy001f01").then(x -> x.set(1, 99)).then(x -> x.set(2, 20)).then(x -> x.set(4, 99))
            .then(StandIns::post).then(x -> x.ready(1, 0, 9));
        pays("the first one gets the late fee, too", first.then(StandIns::play), 0, 99 + 180 + 99);
        pays("called off", posted.then(x -> x.away(0, 1)).then(x -> x.away(1, 1)).then(StandIns::play), 0, 0, 0);
    }

    private void nothingPostedOnANewDay() {
        sentence("Terms", "With each new day nothing is posted.");
        Recipe posted = two().then(x -> x.set(4, 99)).then(StandIns::post);
        Recipe away = posted.then(x -> x.away(0, 1)).then(x -> x.away(1, 1));
        Recipe[] days = {posted.then(StandIns::play), away.then(StandIns::play), posted.then(x -> x.dark(1))};
        for (Recipe day : days) {
            due("posted", 0, day, x -> x.about(6));
            due("posted for 0", NONE, day, x -> x.role(0, 3));
            due("a role can be added", 2, day, x -> x.addRole(1));
            due("no late fee for 2", 25 + 14, day.then(x -> x.away(0, 1)), StandIns::play);
        }
        due("before", 1, posted, x -> x.about(6));
    }

    private void settings() {
        sentence("Terms", "There are settings: 0: the most days in a row, 1 to 9, at first 5; 1: the base, 0 to 99, at first"
            + " 10; 2: the rate, 0 to 20, at first 2; 3: the extra, 0 to 50, at first 5; 4: the late fee, 0 to 99, at first 15.");
        for (int what = 0; what <= 4; what++) {
            int w = what;
            due("at first", SETTINGS[w][2], fresh(), x -> x.setting(w));
            due("at first, in a loaded house", SETTINGS[w][2], text("H").then(x -> x.set(w, 9)).then(StandIns::load),
                x -> x.setting(w));
            range("set(" + w + ", v)", SETTINGS[w][0], SETTINGS[w][1], ARGUMENT, two(), (x, v) -> x.set(w, v));
        }
    }
}

import java.math.BigInteger;

/** Promises 28 and 29: scripts and simulations. */
final class ScriptEdges extends Edges {
    private static final long FACTOR = 6364136223846793005L;
    private static final long ADDEND = 1442695040888963407L;
    private static final BigInteger WORD = BigInteger.ONE.shiftLeft(64);
    private static final long INVERSE = BigInteger.valueOf(FACTOR).modInverse(WORD).longValue();

    private interface Fits {
        boolean on(int d2, int d3, int d4);
    }

    ScriptEdges(Tally tally) {
        super(tally);
    }

    @Override
    void all() {
        noActions();
        scriptOnACopy();
        scriptGroups();
        readyCommand();
        firstCommand();
        awayCommand();
        postCommand();
        playCommand();
        darkCommand();
        playsCommand();
        strengthCommand();
        payCommand();
        failingCommands();
        decimalNumbers();
        scriptAnswer();
        scriptRefused();
        simulateOnACopy();
        simulateOverflow();
        simulatePlayer();
        simulateAway();
        simulatePost();
        simulateDark();
        simulatePlay();
        simulateNothing();
        simulateLeavesOut();
        simulateArguments();
        simulateAnswer();
    }

    // ---- scripts

    private void noActions() {
        sentence("Terms", "Ahead of the calls runScript, simulate the interface says: ---- scripts, simulations.");
        due("runScript() is no action", 10, busy().then(x -> x.runScript(2, 4000_5000L)), StandIns::undo);
        due("simulate() is no action", 10, busy().then(x -> x.simulate(1, 40)), StandIns::undo);
    }

    private void scriptOnACopy() {
        sentence("28", "Runs a script on a copy of the state.");
        for (long script : new long[] {1009_2010_3109L, 4000_5000_6099L, 3009_5000_9999L, 0}) {
            keeps("runScript(3, " + script + ")", busy(), x -> x.runScript(3, script));
        }
        due("the settings are copied", NONE, two().then(x -> x.set(1, 80)), x -> x.runScript(2, 5000_9090L));
        due("what is posted is copied", NONE, two().then(StandIns::post).then(x -> x.away(0, 1)), x -> x.runScript(2, 5000_9240L));
        due("today is copied", NONE, two().then(x -> x.dark(9)).then(x -> x.away(0, 1)), x -> x.runScript(2, 6001_7000L));
    }

    private void scriptGroups() {
        sentence("28", "A script has 1 to 3 commands; each is a group of four decimal digits d1 to d4, and the first command is the"
            + " highest group of the number (with zeros before it, if it has fewer digits).");
        due("one command", NONE, two(), x -> x.runScript(1, 7000));
        due("two commands", NONE, two(), x -> x.runScript(2, 7000_7110L));
        due("three commands", NONE, two(), x -> x.runScript(3, 7000_7110_8097L));
        due("the highest group is the first one", NONE, two(), x -> x.runScript(2, 3001_7020L));
        due("and the lowest one the last one", 0, two(), x -> x.runScript(2, 7020_3001L));
        due("the second one is behind the first one", NONE, two(), x -> x.runScript(3, 3002_6002_7000L));
        due("and ahead of the third one", 1, two(), x -> x.runScript(3, 3002_7000_6002L));
        due("zeros before one", 0, two(), x -> x.runScript(1, 700));
        due("zeros before two", 0, two(), x -> x.runScript(2, 7000));
        due("zeros before three", 0, two(), x -> x.runScript(3, 7000_7000L));
        due("only zeros", 0, two(), x -> x.runScript(3, 0));
    }

    /** Runs each group that begins with this digit. */
    private void everyGroup(int d1, Recipe recipe, Fits fits) {
        for (int rest = 0; rest < 1000; rest++) {
            int group = 1000 * d1 + rest;
            int want = fits.on(rest / 100, rest / 10 % 10, rest % 10) ? NONE : 0;
            due("runScript(1, " + group + ")", want, recipe, x -> x.runScript(1, group));
        }
    }

    /** Behind the command the copy is as an object is behind the call. */
    private void asBehind(int group, Recipe recipe, Recipe.Step call) {
        StandIns done = recipe.then(call).make();
        String what = "behind " + group;
        for (int r = 0; r < done.about(0); r++) {
            for (int p = 0; p < done.about(1); p++) {
                succeeds(what, recipe, 1, group * 10000L + 7000 + 100 * r + 10 * p, done.role(r, 2) == p);
            }
        }
        int strength = done.strength();
        succeeds(what, recipe, 1, group * 10000L + 8000 + Math.max(0, strength), strength != NONE);
        succeeds(what, recipe, 1, group * 10000L + 8000 + strength + 1, false);
        for (int p = 0; p < done.about(1); p++) {
            int pay = done.player(p, 0);
            succeeds(what, recipe, 1, group * 10000L + 9000 + 100 * p + Math.min(99, pay), true);
            if (pay < 99) {
                succeeds(what, recipe, 1, group * 10000L + 9000 + 100 * p + pay + 1, false);
            }
        }
    }

    /** All commands ahead of the index succeed; this one does, or not. */
    private void succeeds(String what, Recipe recipe, int index, long script, boolean does) {
        due(what + ", runScript(" + (index + 1) + ", " + script + ")", does ? NONE : index, recipe, x -> x.runScript(index + 1, script));
    }

    private void readyCommand() {
        sentence("28", "1 p r d: ready(p, r, d).");
        everyGroup(1, two(), (p, r, d) -> p < 3 && r < 2);
        everyGroup(1, full(), (p, r, d) -> r < 6);
        everyGroup(1, house("Hr1"), (p, r, d) -> false);
        everyGroup(1, house("Hp"), (p, r, d) -> false);
        for (int group = 1000; group < 1300; group++) {
            int p = group / 100 % 10;
            int r = group / 10 % 10;
            int d = group % 10;
            if (r < 2) {
                asBehind(group, two(), x -> x.ready(p, r, d));
            }
        }
    }

    private void firstCommand() {
        sentence("28", "2 r p 0: first(r, p).");
        everyGroup(2, two(), (r, p, zero) -> r < 2 && p < 3 && zero == 0);
        everyGroup(2, full(), (r, p, zero) -> r < 6 && zero == 0);
        everyGroup(2, fresh(), (r, p, zero) -> false);
        for (int r = 0; r < 2; r++) {
            for (int p = 0; p < 3; p++) {
                int role = r;
                int player = p;
                asBehind(2000 + 100 * r + 10 * p, two(), x -> x.first(role, player));
            }
        }
    }

    private void awayCommand() {
        sentence("28", "3 p 0 d: away(p, d).");
        everyGroup(3, two(), (p, zero, d) -> p < 3 && zero == 0 && d > 0);
        everyGroup(3, full(), (p, zero, d) -> zero == 0 && d > 0);
        everyGroup(3, fresh(), (p, zero, d) -> false);
        for (int p = 0; p < 3; p++) {
            int player = p;
            asBehind(3001 + 100 * p, two(), x -> x.away(player, 1));
        }
        for (int days = 1; days <= 9; days++) {
            long script = (3000L + days) * 10000;
            if (days > 1) {
                succeeds("on the last day", two(), 2, (script + 6000 + days - 1) * 10000 + 7000, false);
            }
            succeeds("on the day of the return", two(), 2, (script + 6000 + days) * 10000 + 7000, true);
        }
    }

    private void postCommand() {
        sentence("28", "4 0 0 0: post().");
        everyGroup(4, two(), (d2, d3, d4) -> d2 + d3 + d4 == 0);
        everyGroup(4, house("Hr1p"), (d2, d3, d4) -> false);
        everyGroup(4, house("Hp"), (d2, d3, d4) -> false);
        Recipe late = two().then(StandIns::post).then(x -> x.away(0, 1));
        due("the late fee without it", NONE, late, x -> x.runScript(2, 5000_9240L));
        due("no late fee behind it", 2, late, x -> x.runScript(3, 4000_5000_9226L));
        due("but the extra", NONE, late, x -> x.runScript(3, 4000_5000_9225L));
        asBehind(4000, late, StandIns::post);
    }

    private void playCommand() {
        sentence("28", "5 0 0 0: play(); succeeds if it is not called off.");
        everyGroup(5, two(), (d2, d3, d4) -> d2 + d3 + d4 == 0);
        everyGroup(5, house("Hr1p"), (d2, d3, d4) -> false);
        everyGroup(5, house("Hp"), (d2, d3, d4) -> false);
        asBehind(5000, two(), StandIns::play);
        asBehind(5000, two().times(4, StandIns::play), StandIns::play);
        Recipe nothing = house("Hr1py001").then(x -> x.set(1, 0)).then(x -> x.set(2, 0)).then(x -> x.set(3, 0));
        due("nothing to get is not called off", NONE, nothing, x -> x.runScript(1, 5000));
        due("it is played once", NONE, nothing.times(4, StandIns::play), x -> x.runScript(1, 5000));
        due("called off behind five", 1, nothing.times(4, StandIns::play), x -> x.runScript(3, 5000_5000_5000L));
    }

    private void darkCommand() {
        sentence("28", "6 0 n n: dark(nn).");
        everyGroup(6, two(), (zero, n1, n2) -> zero == 0 && n1 + n2 > 0);
        everyGroup(6, fresh(), (zero, n1, n2) -> zero == 0 && n1 + n2 > 0);
        for (int n = 1; n <= 99; n++) {
            int days = n;
            Recipe away = two().then(x -> x.away(0, days));
            succeeds("back behind " + n, away, 1, (6000L + n) * 10000 + 7000, true);
            if (n > 1) {
                succeeds("not back ahead of " + n, away, 1, (6000L + n - 1) * 10000 + 7000, false);
            }
        }
        asBehind(6001, two().times(5, StandIns::play), x -> x.dark(1));
    }

    private void playsCommand() {
        sentence("28", "7 r p 0: succeeds if p plays r today.");
        everyGroup(7, two(), (r, p, zero) -> zero == 0 && r == p && r < 2);
        everyGroup(7, full(), (r, p, zero) -> zero == 0 && r == p && r < 6);
        everyGroup(7, two().then(x -> x.away(0, 1)), (r, p, zero) -> zero == 0 && (r == 0 && p == 2 || r == 1 && p == 1));
        everyGroup(7, house("Hr1p"), (r, p, zero) -> false);
        everyGroup(7, house("Hp"), (r, p, zero) -> false);
    }

    private void strengthCommand() {
        sentence("28", "8 x x x: succeeds if the strength of the cast of today is at least xxx (without a cast it fails).");
        everyGroup(8, two(), (x1, x2, x3) -> 100 * x1 + 10 * x2 + x3 <= 97);
        everyGroup(8, house("Hr1p"), (x1, x2, x3) -> false);
        everyGroup(8, house("Hr1py001"), (x1, x2, x3) -> 100 * x1 + 10 * x2 + x3 <= 1);
        everyGroup(8, strongest(9), (x1, x2, x3) -> true);
        everyGroup(8, strongest(8), (x1, x2, x3) -> 100 * x1 + 10 * x2 + x3 <= 972);
    }

    /** Six roles of the weight 9, each played by its first player, to this degree. */
    private static Recipe strongest(int degree) {
        Recipe recipe = house("Hr9r9r9r9r9r9pppppp");
        for (int r = 0; r < 6; r++) {
            int role = r;
            recipe = recipe.then(x -> x.first(role, role)).then(x -> x.ready(role, role, degree));
        }
        return recipe;
    }

    private void payCommand() {
        sentence("28", "9 p n n: succeeds if p got at least nn so far.");
        int[] pays = {20, 14, 0};
        everyGroup(9, two(), (p, n1, n2) -> p < 3 && 10 * n1 + n2 == 0);
        everyGroup(9, two().then(StandIns::play), (p, n1, n2) -> p < 3 && 10 * n1 + n2 <= pays[p]);
        everyGroup(9, two().times(5, StandIns::play), (p, n1, n2) -> p < 3 && 10 * n1 + n2 <= 5 * pays[p]);
        everyGroup(9, full(), (p, n1, n2) -> 10 * n1 + n2 == 0);
        everyGroup(9, fresh(), (p, n1, n2) -> false);
    }

    private void failingCommands() {
        sentence("28", "The commands 1 to 6 fail if the method would throw an exception; commands with players or roles that do not"
            + " exist fail, and so does any other group (also one with another digit where a 0 is written).");
        everyGroup(0, two(), (d2, d3, d4) -> false);
        everyGroup(0, full(), (d2, d3, d4) -> false);
        int[] failing = {1300, 1020, 2200, 2030, 3301, 3000, 6000, 7200, 7030, 9300, 2001, 3011, 4001, 4010, 4100, 5001, 5010, 5100,
            6101, 7001, 0, 999};
        for (int group : failing) {
            succeeds("the first one fails", two(), 0, group, false);
            succeeds("the second one fails", two(), 1, 6001_0000L + group, false);
            succeeds("the third one fails", two(), 2, 6001_6001_0000L + group, false);
        }
        int[] good = {1200, 1010, 2100, 2020, 3201, 6001, 7000, 9200, 4000, 5000};
        for (int group : good) {
            succeeds("the first one succeeds", two(), 0, group, true);
        }
        due("what fails does nothing more", 0, two(), x -> x.runScript(2, 4001_8000L));
    }

    private void decimalNumbers() {
        sentence("28", "nn and xxx are decimal numbers.");
        Recipe away = two().then(x -> x.away(0, 10));
        succeeds("ten days", away, 1, 6010_7000L, true);
        succeeds("nine days", away, 1, 6009_7000L, false);
        succeeds("the strength 97", two(), 0, 8097, true);
        succeeds("the strength 98", two(), 0, 8098, false);
        succeeds("the strength 100", strongest(9), 0, 8100, true);
        succeeds("the pay 20", two().then(StandIns::play), 0, 9020, true);
        succeeds("the pay 21", two().then(StandIns::play), 0, 9021, false);
    }

    private void scriptAnswer() {
        sentence("28", "Returns the index, from 0, of the first command that fails; NONE if all succeed.");
        long good = 6001;
        for (int n = 1; n <= 3; n++) {
            int commands = n;
            for (int fails = 0; fails < 1 << n; fails++) {
                long script = 0;
                for (int i = 0; i < n; i++) {
                    script = script * 10000 + ((fails >> i & 1) == 1 ? 8999 : good);
                }
                long groups = script;
                int want = fails == 0 ? NONE : Integer.numberOfTrailingZeros(fails);
                due("runScript(" + n + ", " + script + ")", want, two(), x -> x.runScript(commands, groups));
            }
        }
    }

    private void scriptRefused() {
        sentence("28", "n: number of commands, 1 to 3", "script: the commands, a number of at most 4 * n digits (0 or more)",
            "Throws IllegalArgumentException if n is out of range, or if script is negative or has more than 4 * n digits");
        range("runScript(n, 0)", 1, 3, ARGUMENT, busy(), (x, n) -> x.runScript(n, 0));
        beyond("runScript(n, 4000)", 1, 3, ARGUMENT, fresh(), (x, n) -> x.runScript(n, 4000));
        beyond("runScript(n, -1)", 1, 3, ARGUMENT, fresh(), (x, n) -> x.runScript(n, -1));
        long limit = 1;
        for (int n = 1; n <= 3; n++) {
            int commands = n;
            limit *= 10000;
            long most = limit - 1;
            due("the greatest number for " + n, 0, two(), x -> x.runScript(commands, most / 10000 * 10000));
            taken("the greatest number for " + n, busy(), x -> x.runScript(commands, most));
            long[] bad = {-1, -4000, Long.MIN_VALUE, Long.MAX_VALUE, limit, limit + 4000, limit * 10, limit * 10000 + 4000, -limit};
            for (long script : bad) {
                refused("runScript(" + n + ", " + script + ")", ARGUMENT, busy(), x -> x.runScript(commands, script));
            }
        }
    }

    // ---- simulations

    private static int r(long x) {
        return (int) (x >>> 33);
    }

    /** A seed whose first day has this r; so many days behind it are just played. */
    private static long seed(int r, int playedDays) {
        long x = (long) r << 33;
        while (!justPlayed(x, playedDays)) {
            x++;
        }
        return (x - ADDEND) * INVERSE;
    }

    private static boolean justPlayed(long first, int days) {
        long x = first;
        for (int i = 0; i < days; i++) {
            x = x * FACTOR + ADDEND;
            if (r(x) % 8 < 3) {
                return false;
            }
        }
        return true;
    }

    private void simulated(String what, int want, Recipe recipe, long seed, int m) {
        due(what + ", simulate(" + seed + ", " + m + ")", want, recipe, x -> x.simulate(seed, m));
    }

    /** The days done by the calls of an object, with numbers that never overflow. */
    private static int byHand(Recipe recipe, long seed, int m) {
        StandIns x = recipe.make();
        int performed = x.about(3);
        int calledOff = x.about(4);
        BigInteger state = BigInteger.valueOf(seed).mod(WORD);
        for (int i = 0; i < m; i++) {
            state = state.multiply(BigInteger.valueOf(FACTOR)).add(BigInteger.valueOf(ADDEND)).mod(WORD);
            dayByHand(x, state.shiftRight(33).intValueExact());
        }
        return 1000 * (x.about(3) - performed) + x.about(4) - calledOff;
    }

    private static void dayByHand(StandIns x, int r) {
        int p = r / 8 % x.about(1);
        if (r % 8 == 2) {
            x.dark(1);
            return;
        }
        if (r % 8 == 1 && x.strength() != NONE) {
            x.post();
        }
        if (r % 8 < 2) {
            x.away(p, r % 8 == 0 ? 1 + r / 128 % 5 : 1);
        }
        x.play();
    }

    private void simulateOnACopy() {
        sentence("29", "Simulates m days on a copy of the state.");
        for (long seed = 0; seed < 20; seed++) {
            long some = seed;
            keeps("simulate(" + seed + ", 40)", busy(), x -> x.simulate(some, 40));
        }
        simulated("those who are away are copied", 1, house("Hr1py001a01"), seed(3, 0), 1);
        simulated("the days in a row are copied", 1, house("Hr1py001ggggg"), seed(3, 0), 1);
        simulated("the settings are copied", 1000, house("Hr1py001ggggg").then(x -> x.set(0, 6)), seed(3, 0), 1);
    }

    private void simulateOverflow() {
        sentence("29", "A long x starts as the seed. For each day x is first replaced by x * 6364136223846793005L +"
            + " 1442695040888963407L (with long overflow), and r = (int) (x >>> 33) is computed.");
        long[] seeds = {0, 1, -1, 2, Long.MAX_VALUE, Long.MIN_VALUE, Long.MAX_VALUE - 1, Long.MIN_VALUE + 1, FACTOR, ADDEND, -FACTOR,
            1L << 33, 1L << 32, -1L << 33, 1L << 31, 1L << 62};
        for (long seed : seeds) {
            for (int m : new int[] {1, 2, 7, 39, 40}) {
                for (Recipe recipe : new Recipe[] {two(), house("Hr1pppy201"), house("Hr5ppy003y105").then(x -> x.set(0, 2))}) {
                    simulated("by hand", byHand(recipe, seed, m), recipe, seed, m);
                }
            }
        }
        for (int r : new int[] {0, 1, 2, 3, GREATEST, GREATEST - 1, GREATEST - 5, GREATEST - 6, GREATEST - 7, 1 << 30}) {
            simulated("r is " + r, byHand(two(), seed(r, 0), 3), two(), seed(r, 0), 3);
        }
        for (int i = 0; i < 2000; i++) {
            long seed = i * 0x9E3779B97F4A7C15L;
            Recipe recipe = two().then(x -> x.ready(0, 1, 0)).then(x -> x.ready(2, 1, 0)).then(x -> x.set(0, 9));
            simulated("by hand", byHand(recipe, seed, 1 + i % 40), recipe, seed, 1 + i % 40);
        }
    }

    private void simulatePlayer() {
        sentence("29", "p is r / 8 % (the number of players).");
        int greatest = GREATEST / 8;
        for (int players = 1; players <= 10; players++) {
            int last = players - 1;
            Recipe lastPlays = house("Hr1" + "p".repeat(players) + "y" + last + "01");
            for (int q = 0; q <= 30; q++) {
                simulated("r / 8 is " + q, q % players == last ? 1 : 1000, lastPlays, seed(8 * q, 0), 1);
                simulated("r / 8 is " + q, q % players == last ? 1 : 1000, lastPlays, seed(8 * q + 1, 0), 1);
                int far = greatest - q;
                simulated("r / 8 is " + far, far % players == last ? 1 : 1000, lastPlays, seed(8 * far, 0), 1);
            }
        }
    }

    private void simulateAway() {
        sentence("29", "If r % 8 is 0, p goes away for 1 + r / 128 % 5 days;");
        Recipe one = house("Hr1py001").then(x -> x.set(0, 9));
        int greatest = GREATEST / 8 * 8;
        for (int r = 0; r <= 128 * 12; r += 8) {
            int days = 1 + r / 128 % 5;
            simulated("r is " + r, 1000 * (6 - days) + days, one, seed(r, 5), 6);
            int far = greatest - r;
            int farDays = 1 + far / 128 % 5;
            simulated("r is " + far, 1000 * (6 - farDays) + farDays, one, seed(far, 5), 6);
        }
        simulated("away instead of what was told before", 5001, one.then(x -> x.away(0, 9)), seed(0, 5), 6);
    }

    private void simulatePost() {
        sentence("29", "if it is 1, the cast is posted, and then p goes away for a day;");
        Recipe one = house("Hr1py001").then(x -> x.set(0, 9));
        for (int r = 1; r <= 128 * 6; r += 8) {
            simulated("r is " + r, 5001, one, seed(r, 5), 6);
        }
        simulated("r is " + (GREATEST - 6), 5001, one, seed(GREATEST - 6, 5), 6);
        simulated("another one plays", 1000, house("Hr1ppy001y101"), seed(1, 0), 1);
    }

    private void simulateDark() {
        sentence("29", "if it is 2, the day is dark (dark(1)).");
        Recipe one = house("Hr1py001").then(x -> x.set(0, 1));
        for (int r = 2; r <= 128 * 6; r += 8) {
            simulated("r is " + r, 0, one, seed(r, 0), 1);
            simulated("free behind it", 1000, one.then(StandIns::play), seed(r, 1), 2);
            simulated("a day less away", 1000, one.then(x -> x.away(0, 1)), seed(r, 1), 2);
            simulated("and not more", 1, one.then(x -> x.away(0, 2)), seed(r, 1), 2);
        }
        simulated("r is " + (GREATEST - 5), 0, one, seed(GREATEST - 5, 0), 1);
    }

    private void simulatePlay() {
        sentence("29", "Otherwise, and behind the first two, the day is played.");
        Recipe one = house("Hr1py001").then(x -> x.set(0, 1));
        for (int r = 3; r <= 7; r++) {
            simulated("r is " + r, 1000, one, seed(r, 0), 1);
            simulated("not free behind it", 1001, one, seed(r, 1), 2);
            simulated("r is 8 more", 1000, one, seed(8 + r, 0), 1);
        }
        simulated("r is the greatest", 1000, one, seed(GREATEST, 0), 1);
        simulated("behind the first", 1, one, seed(0, 0), 1);
        simulated("behind the second", 1, one, seed(1, 0), 1);
    }

    private void simulateNothing() {
        sentence("29", "Without players or without roles nothing happens.");
        for (Recipe recipe : new Recipe[] {fresh(), house("Hr1"), house("Hp"), house("Hr1r2r3"), house("Hppp")}) {
            for (int r = 0; r < 8; r++) {
                int some = r;
                simulated("r is " + r, 0, recipe, seed(r, 0), 1);
                simulated("r is " + r, 0, recipe, seed(r, 0), 40);
                keeps("simulate", recipe, x -> x.simulate(seed(some, 0), 40));
            }
        }
        simulated("with both", 1, house("Hr1p"), seed(3, 0), 1);
    }

    private void simulateLeavesOut() {
        sentence("29", "What would throw an exception is left out.");
        simulated("post() without a cast, but not away()", 1001, house("Hr1py001").then(x -> x.away(0, 9)), seed(1, 1), 2);
        simulated("post() without a cast, but not play()", 1, house("Hr1p"), seed(1, 0), 1);
    }

    private void simulateArguments() {
        sentence("29", "seed: any long", "m: number of days, 1 to 40", "Throws IllegalArgumentException if m is out of range");
        for (long seed : new long[] {0, -1, Long.MIN_VALUE, Long.MAX_VALUE}) {
            range("simulate(" + seed + ", m)", 1, 40, ARGUMENT, busy(), (x, m) -> x.simulate(seed, m));
            beyond("simulate(" + seed + ", m) without roles and players", 1, 40, ARGUMENT, fresh(), (x, m) -> x.simulate(seed, m));
        }
        for (int m = 1; m <= 40; m++) {
            simulated("so many days", byHand(two(), 3, m), two(), 3, m);
        }
    }

    private void simulateAnswer() {
        sentence("29", "Returns 1000 * (the performances in them) + (those that are called off in them).");
        simulated("one played", 1000, house("Hr1py001ggg"), seed(3, 0), 1);
        simulated("one called off", 1, house("Hr1pggg"), seed(3, 0), 1);
        simulated("five played, one called off", 5001, house("Hr1py001"), seed(3, 5), 6);
        simulated("five played, one called off, one played", 6001, house("Hr1py001"), seed(3, 6), 7);
        simulated("a day that is neither", 0, house("Hr1py001"), seed(2, 0), 1);
        simulated("six called off", 6, house("Hr1p"), seed(3, 5), 6);
    }
}

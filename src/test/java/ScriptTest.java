/** Promises 28 and 29: scripts and simulations. */
public final class ScriptTest {
    private static final Checks T = new Checks("ScriptTest");
    // worths: role 0: 75 30 20; role 1: 6 22 10; so the cast is 0 and 1, with the strength 97
    private static final String TWO = "Hr5r2pppy005y013y106y111y204y215f00f11";

    public static void main(String[] args) {
        scriptArguments();
        scriptCommands();
        scriptGroups();
        scriptEffects();
        scriptChangesNothing();
        simulateArguments();
        simulateDays();
        simulateChangesNothing();
        T.end();
    }

    private static void scriptArguments() {
        StandIns x = Checks.house(TWO);
        T.badArgument("28: runScript(0, 0)", () -> x.runScript(0, 0));
        T.badArgument("28: runScript(4, 0)", () -> x.runScript(4, 0));
        T.badArgument("28: runScript(-1, 0)", () -> x.runScript(-1, 0));
        T.badArgument("28: runScript(1, -1)", () -> x.runScript(1, -1));
        T.badArgument("28: runScript(3, least)", () -> x.runScript(3, Long.MIN_VALUE));
        T.badArgument("28: runScript(3, greatest)", () -> x.runScript(3, Long.MAX_VALUE));
        long limit = 1;
        for (int n = 1; n <= 3; n++) {
            int commands = n;
            limit *= 10000;
            long many = limit;
            T.badArgument("28: one digit too many for " + n, () -> x.runScript(commands, many));
            T.badArgument("28: five digits too many for " + n, () -> x.runScript(commands, many * 10000));
            T.badArgument("28: with zeros ahead of them", () -> x.runScript(commands, many * 10000 + 4000));
            T.due("28: as many digits as may be for " + n, 0, () -> x.runScript(commands, many - 1));
            T.due("28: zeros only", 0, () -> x.runScript(commands, 0));
        }
    }

    private static void script(StandIns x, int group, boolean succeeds) {
        T.due("28: the command " + group, succeeds ? -1 : 0, () -> x.runScript(1, group));
    }

    private static void scriptCommands() {
        StandIns x = Checks.house(TWO);
        script(x, 1000, true);
        script(x, 1219, true);
        script(x, 1309, false);
        script(x, 1029, false);
        script(x, 2000, true);
        script(x, 2120, true);
        script(x, 2200, false);
        script(x, 2030, false);
        script(x, 2001, false);
        script(x, 3001, true);
        script(x, 3209, true);
        script(x, 3000, false);
        script(x, 3301, false);
        script(x, 3011, false);
        script(x, 4000, true);
        script(x, 4001, false);
        script(x, 4010, false);
        script(x, 4100, false);
        script(x, 5000, true);
        script(x, 5001, false);
        script(x, 5010, false);
        script(x, 5100, false);
        script(x, 6001, true);
        script(x, 6099, true);
        script(x, 6000, false);
        script(x, 6101, false);
        script(x, 7000, true);
        script(x, 7110, true);
        script(x, 7010, false);
        script(x, 7020, false);
        script(x, 7001, false);
        script(x, 7200, false);
        script(x, 7030, false);
        script(x, 8000, true);
        script(x, 8097, true);
        script(x, 8098, false);
        script(x, 8999, false);
        script(x, 9000, true);
        script(x, 9001, false);
        script(x, 9300, false);
        script(x, 0, false);
        script(x, 999, false);
        script(x, 9999, false);
    }

    private static void scriptGroups() {
        StandIns x = Checks.house(TWO);
        T.due("28: all of two succeed", -1, () -> x.runScript(2, 40005000L));
        T.due("28: the first one fails", 0, () -> x.runScript(2, 99995000L));
        T.due("28: the second one fails", 1, () -> x.runScript(2, 50009999L));
        T.due("28: all of three succeed", -1, () -> x.runScript(3, 500050005000L));
        T.due("28: the third one fails", 2, () -> x.runScript(3, 500050008098L));
        T.due("28: the first of several that fail", 1, () -> x.runScript(3, 500080988098L));
        T.due("28: zeros ahead are a group that fails", 0, () -> x.runScript(2, 5000L));
        T.due("28: three with zeros ahead", 0, () -> x.runScript(3, 50005000L));
    }

    private static void scriptEffects() {
        StandIns x = Checks.house(TWO);
        T.due("28: 1 is ready(p, r, d)", -1, () -> x.runScript(3, 1000_8042_7020L));
        T.due("28: without 0 it is not 43", 1, () -> x.runScript(2, 1000_8043L));
        T.due("28: 2 is first(r, p)", -1, () -> x.runScript(2, 2020_8092L));
        T.due("28: and not more", 1, () -> x.runScript(2, 2020_8093L));
        T.due("28: 3 is away(p, d)", -1, () -> x.runScript(3, 3001_7020_8042L));
        T.due("28: 3 and 6 bring back", -1, () -> x.runScript(3, 3002_6002_7000L));
        T.due("28: but not before", 2, () -> x.runScript(3, 3003_6002_7000L));
        StandIns longAway = Checks.house(TWO);
        longAway.away(0, 47);
        T.due("28: 6 with two digits", -1, () -> longAway.runScript(2, 6047_7000L));
        T.due("28: 6 with a day less", 1, () -> longAway.runScript(2, 6046_7000L));
        T.due("28: without a post no late fee", -1, () -> x.runScript(3, 3001_5000_9225L));
        T.due("28: not more than without a post", 2, () -> x.runScript(3, 3001_5000_9226L));
        T.due("28: 5 pays", -1, () -> x.runScript(2, 5000_9020L));
        T.due("28: and not more", 1, () -> x.runScript(2, 5000_9021L));
        T.due("28: 5 with another cast", -1, () -> x.runScript(3, 1000_6001_5000L));
        T.due("28: 5 is called off", 2, () -> x.runScript(3, 3002_3102_5000L));
        x.away(0, 1);
        x.away(1, 1);
        script(x, 4000, false);
        script(x, 5000, false);
        script(x, 7000, false);
        script(x, 7020, false);
        script(x, 8000, false);
        x.dark(1);
        x.post();
        x.away(0, 1);
        T.due("28: the late fee of what is posted", -1, () -> x.runScript(2, 5000_9240L));
        T.due("28: 4 posts instead", 2, () -> x.runScript(3, 4000_5000_9240L));
        T.due("28: 4 posts instead, and the rest is paid", -1, () -> x.runScript(3, 4000_5000_9225L));
        StandIns none = Checks.house("Hp");
        script(none, 8000, true);
        script(none, 8001, false);
        script(none, 4000, false);
        script(none, 5000, false);
        script(none, 7000, false);
        script(none, 6099, true);
        script(none, 3009, true);
        script(none, 9000, true);
        script(new StandIns(), 9000, false);
        script(new StandIns(), 3001, false);
        StandIns free = Checks.house("Hr1py001");
        free.set(1, 0);
        free.set(2, 0);
        free.set(3, 0);
        script(free, 5000, true);
    }

    private static void scriptChangesNothing() {
        StandIns x = Checks.house(TWO);
        x.post();
        String before = Snapshot.of(x);
        x.runScript(3, 1009_3109_5000L);
        x.runScript(3, 2010_4000_6099L);
        T.same("28: it changes nothing", before, Snapshot.of(x));
        T.due("28: it is no action", 0, x::undo);
    }

    private static void simulateArguments() {
        StandIns x = Checks.house(TWO);
        T.badArgument("29: simulate(0, 0)", () -> x.simulate(0, 0));
        T.badArgument("29: simulate(0, 41)", () -> x.simulate(0, 41));
        T.badArgument("29: simulate(0, -1)", () -> x.simulate(0, -1));
        T.due("29: without players", 0, () -> Checks.house("Hr1").simulate(1, 40));
        T.due("29: without roles", 0, () -> Checks.house("Hp").simulate(1, 40));
        T.due("29: without both", 0, () -> new StandIns().simulate(1, 40));
        StandIns none = new StandIns();
        T.badArgument("29: out of range without both", () -> none.simulate(1, 41));
        T.due("29: the run of the tests under shared", 33, () -> {
            StandIns y = Checks.house("Hr1p");
            return y.simulate(-1, 40);
        });
    }

    /** The days of every seed done by hand, with the calls of an object that is the same. */
    private static void simulateDays() {
        String[] texts = {TWO, TWO + "gg", TWO + "pr1y321y223a22", TWO + "pppy303y414y515", TWO + "a09a19a22gg", "Hr3py005f00"};
        for (int i = 0; i < 1000; i++) {
            long seed = (i - 500) * 0x123456789ABCDEFL;
            int m = i % 40 + 1;
            String text = texts[i % texts.length];
            int mostInARow = i % 9 + 1;
            T.due("29: simulate(" + seed + ", " + m + ") in " + text + " with " + mostInARow + " in a row",
                byHand(someHouse(text, mostInARow), seed, m),
                () -> someHouse(text, mostInARow).simulate(seed, m));
        }
    }

    private static StandIns someHouse(String text, int mostInARow) {
        StandIns x = Checks.house(text);
        x.set(0, mostInARow);
        return x;
    }

    private static int byHand(StandIns x, long seed, int m) {
        int performed = x.about(3);
        int calledOff = x.about(4);
        long state = seed;
        for (int i = 0; i < m; i++) {
            state = state * 6364136223846793005L + 1442695040888963407L;
            int r = (int) (state >>> 33);
            int p = r / 8 % x.about(1);
            if (r % 8 == 2) {
                x.dark(1);
                continue;
            }
            if (r % 8 == 0) {
                x.away(p, 1 + r / 128 % 5);
            }
            if (r % 8 == 1) {
                if (x.strength() != StandIns.NONE) {
                    x.post();
                }
                x.away(p, 1);
            }
            x.play();
        }
        return 1000 * (x.about(3) - performed) + x.about(4) - calledOff;
    }

    private static void simulateChangesNothing() {
        StandIns x = Checks.house(TWO);
        x.post();
        String before = Snapshot.of(x);
        for (long seed = 0; seed < 50; seed++) {
            x.simulate(seed, 40);
        }
        T.same("29: it changes nothing", before, Snapshot.of(x));
        T.due("29: it is no action", 0, x::undo);
        T.due("29: one day", 1000, () -> Checks.house("Hr1ppppppppppy001y101y201y301y401y501y601y701y801y901").simulate(5, 1));
    }
}

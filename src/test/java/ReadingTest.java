/** Promises 6 to 11: what there is. */
public final class ReadingTest {
    private static final Checks T = new Checks("ReadingTest");
    // worths: role 0: 75 30 20; role 1: 6 22 10; so the cast is 0 and 1, with the strength 97
    private static final String TWO = "Hr5r2pppy005y013y106y111y204y215f00f11";

    public static void main(String[] args) {
        about();
        role();
        roleCastOfSeveral();
        player();
        playerInARow();
        both();
        setting();
        ranked();
        T.end();
    }

    private static void abouts(String when, StandIns x, int... want) {
        for (int what = 0; what <= 7; what++) {
            int w = what;
            T.due("6: about(" + w + ") " + when, want[w], () -> x.about(w));
        }
    }

    private static void about() {
        StandIns x = Checks.house(TWO);
        abouts("at first", x, 2, 3, 0, 0, 0, 0, 0, 0);
        x.play();
        abouts("behind a day", x, 2, 3, 1, 1, 0, 34, 0, 0);
        x.post();
        abouts("posted", x, 2, 3, 1, 1, 0, 34, 1, 0);
        x.away(0, 1);
        x.play();
        abouts("behind a late call", x, 2, 3, 2, 2, 0, 88, 0, 1);
        x.away(0, 2);
        x.away(1, 2);
        x.play();
        abouts("behind a day that is called off", x, 2, 3, 3, 2, 1, 88, 0, 1);
        x.dark(4);
        abouts("behind dark days", x, 2, 3, 7, 2, 1, 88, 0, 1);
        x.first(0, 2);
        x.first(1, 2);
        x.play();
        // 2 is the first one of both, and can be only in one of them
        T.due("6: about(7) behind a change of first ones", 2, () -> x.about(7));
        for (int what : new int[] {-1, 8, Integer.MIN_VALUE, Integer.MAX_VALUE}) {
            T.badArgument("6: about(" + what + ")", () -> x.about(what));
        }
        StandIns y = Checks.house("Hr3r4ppy001y111g");
        T.due("6: about(7) without first ones", 2, () -> y.about(7));
    }

    private static void role() {
        StandIns x = Checks.house(TWO);
        T.due("7: the weight of 0", 5, () -> x.role(0, 0));
        T.due("7: the weight of 1", 2, () -> x.role(1, 0));
        T.due("7: the first one of 1", 1, () -> x.role(1, 1));
        T.due("7: the player of 0 today", 0, () -> x.role(0, 2));
        T.due("7: the player of 1 today", 1, () -> x.role(1, 2));
        T.due("7: nothing is posted", -1, () -> x.role(0, 3));
        T.due("7: those who can play 0", 3, () -> x.role(0, 4));
        x.post();
        x.away(0, 2);
        T.due("7: the player of 0 without 0", 2, () -> x.role(0, 2));
        T.due("7: the player of 1 without 0", 1, () -> x.role(1, 2));
        T.due("7: the posted one of 0", 0, () -> x.role(0, 3));
        T.due("7: the posted one of 1", 1, () -> x.role(1, 3));
        T.due("7: those who can play 0 without 0", 2, () -> x.role(0, 4));
        x.ready(1, 0, 1);
        T.due("7: the least degree is enough", 2, () -> x.role(0, 4));
        x.ready(1, 0, 0);
        T.due("7: those who can play 0 without 0 and 1", 1, () -> x.role(0, 4));
        x.away(1, 2);
        T.due("7: no cast", -1, () -> x.role(0, 2));
        T.due("7: no cast for 1, too", -1, () -> x.role(1, 2));
        T.due("7: the posted one stays without a cast", 1, () -> x.role(1, 3));
        x.play();
        T.due("7: nothing is posted on the next day", -1, () -> x.role(0, 3));
        T.badArgument("7: role(0, 5)", () -> x.role(0, 5));
        T.badArgument("7: role(0, -1)", () -> x.role(0, -1));
        T.outOfBounds("7: role(2, 0)", () -> x.role(2, 0));
        T.outOfBounds("7: role(-1, 0)", () -> x.role(-1, 0));
        T.outOfBounds("7: role(2, 5)", () -> x.role(2, 5));
        T.outOfBounds("7: role(greatest, -1)", () -> x.role(Integer.MAX_VALUE, -1));
        T.due("7: a new role has no first one", -1, () -> {
            x.addRole(1);
            return x.role(2, 1);
        });
        T.due("7: nobody can play it", 0, () -> x.role(2, 4));
    }

    private static void cast(String text, int... want) {
        StandIns x = Checks.house(text);
        for (int r = 0; r < want.length; r++) {
            int role = r;
            T.due("7: role(" + r + ", 2) in " + text, want[r], () -> x.role(role, 2));
        }
    }

    private static void roleCastOfSeveral() {
        cast("Hr1ppy001y101", 0);
        cast("Hr1ppy001y102", 1);
        cast("Hr1ppy009y101f01", 1);
        cast("Hr1ppy009f01", 0);
        cast("Hr1r1pppy001y011y101y111y201y211", 0, 1);
        // 1 + 4 is as much as 2 + 3
        cast("Hr1r1ppy001y013y102y114", 0, 1);
        // the greatest sum, not the best one for role 0: 3 + 9, not 5 + 1
        cast("Hr1r1ppy003y011y105y119", 0, 1);
        cast("Hr1r1ppy005y019y103y111", 1, 0);
        // role 0 has only 1 and 2; 1 for it leaves 0 or 2 for role 1
        cast("Hr1r1pppy011y101y201y211", 1, 0);
        cast("Hr1r1r1pppy001y101y201y012y112y212y023y123y223", 0, 1, 2);
        // nobody else is left for role 1
        cast("Hr1r1ppy009y019", -1, -1);
        cast("Hr1r1p", -1, -1);
        cast("Hr9r1r1r1r1r1ppppppy009y011y102y111y201y221y301y331y401y441y501y551", 0, 1, 2, 3, 4, 5);
        cast("Hr9r1r1r1r1r1ppppppy005y015y106y111y226y331y441y551", 1, 0, 2, 3, 4, 5);
    }

    private static void player() {
        StandIns x = Checks.house(TWO);
        T.due("8: the pay at first", 0, () -> x.player(0, 0));
        T.due("8: free at first", 1, () -> x.player(2, 3));
        T.due("8: 0 plays 0", 0, () -> x.player(0, 5));
        T.due("8: 1 plays 1", 1, () -> x.player(1, 5));
        T.due("8: 2 plays nothing", -1, () -> x.player(2, 5));
        x.play();
        T.due("8: the pay of 0", 20, () -> x.player(0, 0));
        T.due("8: the pay of 1", 14, () -> x.player(1, 0));
        T.due("8: the pay of 2", 0, () -> x.player(2, 0));
        T.due("8: the days of 0 in a row", 1, () -> x.player(0, 1));
        T.due("8: the days of 2 in a row", 0, () -> x.player(2, 1));
        T.due("8: the performances of 0", 1, () -> x.player(0, 4));
        x.away(0, 3);
        T.due("8: away", 3, () -> x.player(0, 2));
        T.due("8: not free", 0, () -> x.player(0, 3));
        T.due("8: 2 plays 0", 0, () -> x.player(2, 5));
        x.play();
        T.due("8: still away", 2, () -> x.player(0, 2));
        T.due("8: no day in a row", 0, () -> x.player(0, 1));
        x.dark(2);
        T.due("8: back", 0, () -> x.player(0, 2));
        T.due("8: free on the day of the return", 1, () -> x.player(0, 3));
        x.dark(7);
        T.due("8: long back", 0, () -> x.player(0, 2));
        T.due("8: the performances of 0 stay", 1, () -> x.player(0, 4));
        T.due("8: the performances of 1", 2, () -> x.player(1, 4));
        x.away(1, 1);
        x.away(2, 1);
        T.due("8: no role without a cast", -1, () -> x.player(0, 5));
        T.badArgument("8: player(0, 6)", () -> x.player(0, 6));
        T.badArgument("8: player(0, -1)", () -> x.player(0, -1));
        T.outOfBounds("8: player(3, 0)", () -> x.player(3, 0));
        T.outOfBounds("8: player(-1, 0)", () -> x.player(-1, 0));
        T.outOfBounds("8: player(3, 6)", () -> x.player(3, 6));
        T.due("8: no role where there are none", -1, () -> Checks.house("Hp").player(0, 5));
    }

    private static void playerInARow() {
        StandIns x = Checks.house("Hr1py001f00gggg");
        T.due("8: four days in a row", 4, () -> x.player(0, 1));
        T.due("8: free behind four", 1, () -> x.player(0, 3));
        x.play();
        T.due("8: five days in a row", 5, () -> x.player(0, 1));
        T.due("8: not free behind five", 0, () -> x.player(0, 3));
        T.due("8: but not away", 0, () -> x.player(0, 2));
        x.set(0, 6);
        T.due("8: free with six", 1, () -> x.player(0, 3));
        x.set(0, 4);
        T.due("8: not free with four", 0, () -> x.player(0, 3));
        T.due("8: the row stays", 5, () -> x.player(0, 1));
        x.play();
        T.due("8: the row ends on a day that is called off", 0, () -> x.player(0, 1));
        x.play();
        x.dark(1);
        T.due("8: the row ends on a dark day", 0, () -> x.player(0, 1));
    }

    private static void both() {
        StandIns x = Checks.house(TWO);
        T.due("9: the degree", 6, () -> x.both(1, 0, 0));
        T.due("9: the other degree", 3, () -> x.both(0, 1, 0));
        T.due("9: the worth of the first one", 75, () -> x.both(0, 0, 2));
        T.due("9: the worth of another one", 30, () -> x.both(1, 0, 2));
        T.due("9: the worth in role 1", 10, () -> x.both(2, 1, 2));
        T.due("9: how often at first", 0, () -> x.both(0, 0, 1));
        x.play();
        x.play();
        T.due("9: how often 0 played 0", 2, () -> x.both(0, 0, 1));
        T.due("9: how often 1 played 1", 2, () -> x.both(1, 1, 1));
        T.due("9: how often 0 played 1", 0, () -> x.both(0, 1, 1));
        T.due("9: how often 1 played 0", 0, () -> x.both(1, 0, 1));
        x.ready(0, 0, 0);
        T.due("9: no worth without a degree, for the first one, too", 0, () -> x.both(0, 0, 2));
        T.due("9: how often stays", 2, () -> x.both(0, 0, 1));
        x.away(1, 5);
        T.due("9: the worth of one who is away", 30, () -> x.both(1, 0, 2));
        T.badArgument("9: both(0, 0, 3)", () -> x.both(0, 0, 3));
        T.badArgument("9: both(0, 0, -1)", () -> x.both(0, 0, -1));
        T.outOfBounds("9: both(3, 0, 0)", () -> x.both(3, 0, 0));
        T.outOfBounds("9: both(0, 2, 0)", () -> x.both(0, 2, 0));
        T.outOfBounds("9: both(-1, 0, 0)", () -> x.both(-1, 0, 0));
        T.outOfBounds("9: both(0, -1, 0)", () -> x.both(0, -1, 0));
        T.outOfBounds("9: both(3, 0, 3)", () -> x.both(3, 0, 3));
        T.outOfBounds("9: both(0, 2, -1)", () -> x.both(0, 2, -1));
    }

    private static void setting() {
        StandIns x = new StandIns();
        for (int what = 0; what <= 4; what++) {
            int w = what;
            x.set(w, 9 - w);
            T.due("10: setting(" + w + ")", 9 - w, () -> x.setting(w));
        }
        T.due("10: setting(0) stays", 9, () -> x.setting(0));
        T.badArgument("10: setting(5)", () -> x.setting(5));
        T.badArgument("10: setting(-1)", () -> x.setting(-1));
        T.badArgument("10: setting(least)", () -> x.setting(Integer.MIN_VALUE));
    }

    private static void ranks(String when, StandIns x, int... want) {
        for (int k = 0; k < want.length; k++) {
            int place = k;
            T.due("11: ranked(" + k + ") " + when, want[k], () -> x.ranked(place));
        }
    }

    private static void ranked() {
        StandIns none = new StandIns();
        ranks("without players", none, -1);
        T.badArgument("11: ranked(-1) without players", () -> none.ranked(-1));
        StandIns x = Checks.house("Hr5ppppy205f02");
        ranks("at first", x, 0, 1, 2, 3, -1);
        x.play();
        ranks("with one paid", x, 2, 0, 1, 3, -1, -1);
        x.ready(1, 0, 5);
        x.first(0, 1);
        x.ready(2, 0, 0);
        x.play();
        ranks("with two paid the same", x, 1, 2, 0, 3, -1);
        x.ready(3, 0, 5);
        x.away(1, 9);
        x.play();
        ranks("with one paid the extra", x, 3, 1, 2, 0, -1);
        T.due("11: ranked(greatest)", -1, () -> x.ranked(Integer.MAX_VALUE));
        T.badArgument("11: ranked(-1)", () -> x.ranked(-1));
        T.badArgument("11: ranked(least)", () -> x.ranked(Integer.MIN_VALUE));
    }
}

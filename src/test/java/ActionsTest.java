import java.util.ArrayList;
import java.util.List;

/** Promises 12 to 22: the actions. */
public final class ActionsTest {
    private static final Checks T = new Checks("ActionsTest");
    // worths: role 0: 75 30 20; role 1: 6 22 10; so the cast is 0 and 1, with the strength 97
    private static final String TWO = "Hr5r2pppy005y013y106y111y204y215f00f11";

    public static void main(String[] args) {
        addRole();
        addPlayer();
        ready();
        first();
        away();
        post();
        play();
        playPays();
        playLate();
        dark();
        promote();
        set();
        undo();
        undoTakesBackAll();
        undoForgetsTheOldest();
        fullHouse();
        T.end();
    }

    private static void addRole() {
        StandIns x = new StandIns();
        T.badArgument("12: addRole(0)", () -> x.addRole(0));
        T.badArgument("12: addRole(10)", () -> x.addRole(10));
        T.badArgument("12: addRole(-1)", () -> x.addRole(-1));
        for (int r = 0; r < 6; r++) {
            int role = r;
            int weight = r == 5 ? 9 : r + 1;
            T.due("12: addRole(" + weight + ")", r, () -> x.addRole(weight));
            T.due("12: its weight", weight, () -> x.role(role, 0));
            T.due("12: its first player", -1, () -> x.role(role, 1));
        }
        T.badState("12: a seventh role", () -> x.addRole(1));
        T.badArgument("12: a seventh role with the weight 10", () -> x.addRole(10));
        StandIns y = Checks.house("Hr1py001");
        y.post();
        T.badState("12: addRole(1) with a posted cast", () -> y.addRole(1));
        T.badArgument("12: addRole(0) with a posted cast", () -> y.addRole(0));
        y.dark(1);
        T.due("12: addRole(1) on the next day", 1, () -> y.addRole(1));
        T.due("12: the degree for it", 0, () -> y.both(0, 1, 0));
    }

    private static void addPlayer() {
        StandIns x = new StandIns();
        x.addRole(1);
        for (int p = 0; p < 10; p++) {
            int player = p;
            T.due("13: addPlayer()", p, x::addPlayer);
            T.due("13: free", 1, () -> x.player(player, 3));
            T.due("13: the degree", 0, () -> x.both(player, 0, 0));
        }
        T.badState("13: an eleventh player", x::addPlayer);
        StandIns y = Checks.house("Hr1py001");
        y.post();
        T.due("13: addPlayer() with a posted cast", 1, y::addPlayer);
        T.due("13: it stays posted", 1, () -> y.about(6));
    }

    private static void ready() {
        StandIns x = Checks.house("Hr2r3pp");
        T.due("14: ready(1, 0, 9)", 0, () -> x.ready(1, 0, 9));
        T.due("14: ready(1, 0, 0)", 9, () -> x.ready(1, 0, 0));
        T.due("14: ready(0, 1, 4)", 0, () -> x.ready(0, 1, 4));
        T.due("14: ready(0, 1, 4) again", 4, () -> x.ready(0, 1, 4));
        T.due("14: the degree of 0 for 1", 4, () -> x.both(0, 1, 0));
        T.due("14: the degree of 1 for 0", 0, () -> x.both(1, 0, 0));
        T.badArgument("14: ready(0, 0, 10)", () -> x.ready(0, 0, 10));
        T.badArgument("14: ready(0, 0, -1)", () -> x.ready(0, 0, -1));
        T.outOfBounds("14: ready(2, 0, 1)", () -> x.ready(2, 0, 1));
        T.outOfBounds("14: ready(0, 2, 1)", () -> x.ready(0, 2, 1));
        T.outOfBounds("14: ready(-1, 0, 1)", () -> x.ready(-1, 0, 1));
        T.outOfBounds("14: ready(0, -1, 1)", () -> x.ready(0, -1, 1));
        T.outOfBounds("14: ready(2, 0, 10)", () -> x.ready(2, 0, 10));
        T.outOfBounds("14: ready(0, 2, -1)", () -> x.ready(0, 2, -1));
    }

    private static void first() {
        StandIns x = Checks.house("Hr2r3ppp");
        T.due("15: first(0, 2)", -1, () -> x.first(0, 2));
        T.due("15: first(0, 1)", 2, () -> x.first(0, 1));
        T.due("15: first(0, 1) again", 1, () -> x.first(0, 1));
        T.due("15: one may be the first of two", -1, () -> x.first(1, 1));
        T.due("15: first(0, 0)", 1, () -> x.first(0, 0));
        T.due("15: the first one of 1 stays", 1, () -> x.role(1, 1));
        T.outOfBounds("15: first(2, 0)", () -> x.first(2, 0));
        T.outOfBounds("15: first(0, 3)", () -> x.first(0, 3));
        T.outOfBounds("15: first(-1, 0)", () -> x.first(-1, 0));
        T.outOfBounds("15: first(0, -1)", () -> x.first(0, -1));
    }

    private static void away() {
        StandIns x = Checks.house("Hppd3");
        T.due("16: away(1, 4)", 7, () -> x.away(1, 4));
        T.due("16: away(1, 1) instead", 4, () -> x.away(1, 1));
        T.due("16: one day", 1, () -> x.player(1, 2));
        T.due("16: away(0, 99)", 102, () -> x.away(0, 99));
        T.due("16: 99 days", 99, () -> x.player(0, 2));
        T.due("16: not free", 0, () -> x.player(0, 3));
        T.badArgument("16: away(0, 0)", () -> x.away(0, 0));
        T.badArgument("16: away(0, 100)", () -> x.away(0, 100));
        T.badArgument("16: away(0, -1)", () -> x.away(0, -1));
        T.outOfBounds("16: away(2, 1)", () -> x.away(2, 1));
        T.outOfBounds("16: away(-1, 1)", () -> x.away(-1, 1));
        T.outOfBounds("16: away(2, 0)", () -> x.away(2, 0));
        x.dark(1);
        T.due("16: back on the next day", 1, () -> x.player(1, 3));
    }

    private static void post() {
        StandIns none = new StandIns();
        T.badState("17: post() without roles", none::post);
        StandIns x = Checks.house(TWO);
        T.due("17: post()", 97, x::post);
        T.due("17: posted for 0", 0, () -> x.role(0, 3));
        T.due("17: posted for 1", 1, () -> x.role(1, 3));
        x.away(0, 1);
        T.due("17: post() instead", 42, x::post);
        T.due("17: posted for 0 instead", 2, () -> x.role(0, 3));
        x.away(1, 1);
        x.away(2, 1);
        T.badState("17: post() without a cast", x::post);
        T.due("17: what is posted stays", 2, () -> x.role(0, 3));
        x.play();
        T.due("17: posted on the next day", 0, () -> x.about(6));
        T.due("17: today stays with post()", 1, () -> x.about(2));
    }

    private static void play() {
        StandIns none = Checks.house("Hp");
        T.badState("18: play() without roles", none::play);
        StandIns x = Checks.house(TWO);
        T.due("18: play()", 34, x::play);
        T.due("18: the next day", 1, () -> x.about(2));
        T.due("18: the pay of 0", 20, () -> x.player(0, 0));
        T.due("18: the pay of 1", 14, () -> x.player(1, 0));
        x.away(0, 2);
        x.away(1, 2);
        T.due("18: play() without a cast", -1, x::play);
        T.due("18: the day behind it", 2, () -> x.about(2));
        T.due("18: it is called off", 1, () -> x.about(4));
        T.due("18: it is no performance", 1, () -> x.about(3));
        T.due("18: nobody gets anything", 34, () -> x.about(5));
        StandIns y = Checks.house("Hr1py001f00ggggg");
        T.due("18: five days in a row are enough", -1, y::play);
        T.due("18: behind it one may play again", 12, y::play);
        StandIns z = Checks.house("Hr1ppy002y101");
        z.set(0, 1);
        for (int day = 0; day < 6; day++) {
            int p = day % 2;
            T.due("18: they take turns", p, () -> z.role(0, 2));
            z.play();
        }
    }

    private static void playPays() {
        StandIns x = Checks.house("Hr9r1r4pppy005y115y225f00");
        x.set(1, 7);
        x.set(2, 3);
        x.set(3, 11);
        x.set(4, 50);
        // 7 + 27 for the first one, 7 + 3 + 11 and 7 + 12 + 11 for those who are not
        T.due("18: play() with other settings", 34 + 21 + 30, x::play);
        T.due("18: the first one", 34, () -> x.player(0, 0));
        T.due("18: a role without a first one", 21, () -> x.player(1, 0));
        T.due("18: another role without", 30, () -> x.player(2, 0));
        x.first(1, 2);
        x.set(1, 0);
        x.set(2, 0);
        T.due("18: only the extras", 22, x::play);
        x.set(3, 0);
        T.due("18: nothing to get is not called off", 0, x::play);
        T.due("18: three performances", 3, () -> x.about(3));
    }

    private static void playLate() {
        StandIns x = Checks.house(TWO);
        x.post();
        T.due("18: play() as posted", 34, x::play);
        x.post();
        x.away(0, 1);
        // the base, five units, the extra and the late fee for 2; 1 plays as posted
        T.due("18: play() with a late call", 40 + 14, x::play);
        T.due("18: the pay of 2", 40, () -> x.player(2, 0));
        x.post();
        x.ready(2, 1, 0);
        x.ready(1, 0, 9);
        x.first(0, 1);
        // 1 goes over to the role 0, of which it is the first one, and 0 to the role 1
        T.due("18: those who are posted change roles", 35 + 34, x::play);
        T.due("18: the pay of 1", 14 * 2 + 35, () -> x.player(1, 0));
        T.due("18: nothing is posted then", 20 + 19, x::play);
        x.post();
        x.set(4, 99);
        x.away(1, 1);
        x.away(0, 1);
        x.away(2, 1);
        T.due("18: a posted cast is called off", -1, x::play);
        T.due("18: nobody gets the late fee", 20 + 19, x::play);
    }

    private static void dark() {
        StandIns x = Checks.house("Hr1py001f00ggp");
        x.post();
        T.due("19: dark(1)", 3, () -> x.dark(1));
        T.due("19: nothing is posted", 0, () -> x.about(6));
        T.due("19: no row", 0, () -> x.player(0, 1));
        T.due("19: dark(99)", 102, () -> x.dark(99));
        T.due("19: no performance", 2, () -> x.about(3));
        T.due("19: none called off", 0, () -> x.about(4));
        x.away(1, 9);
        x.dark(8);
        T.due("19: one day left", 1, () -> x.player(1, 2));
        T.badArgument("19: dark(0)", () -> x.dark(0));
        T.badArgument("19: dark(100)", () -> x.dark(100));
        T.badArgument("19: dark(-1)", () -> x.dark(-1));
        T.due("19: without roles and players", 5, () -> new StandIns().dark(5));
    }

    private static void promote() {
        StandIns x = Checks.house("Hr1r1pppy005y119");
        T.badState("20: nobody has played it", () -> x.promote(0));
        T.outOfBounds("20: promote(2)", () -> x.promote(2));
        T.outOfBounds("20: promote(-1)", () -> x.promote(-1));
        x.play();
        T.due("20: without a first one", 0, () -> x.promote(0));
        T.due("20: it is the first one", 0, () -> x.role(0, 1));
        T.due("20: the other role has none", -1, () -> x.role(1, 1));
        T.badState("20: the first one played it most often", () -> x.promote(0));
        x.first(0, 2);
        T.due("20: the first one never played it", 0, () -> x.promote(0));
        x.ready(2, 0, 9);
        x.first(0, 2);
        x.play();
        T.badState("20: as often is not more often", () -> x.promote(0));
        x.first(0, 1);
        T.due("20: of several the lowest one", 0, () -> x.promote(0));
        x.first(0, 2);
        x.play();
        x.first(0, 0);
        T.due("20: the one who played it most often", 2, () -> x.promote(0));
        T.due("20: all three days were in role 1 of 1", 1, () -> x.promote(1));
        T.due("20: an action", 2, () -> {
            x.undo();
            x.undo();
            x.undo();
            return x.role(0, 1);
        });
    }

    private static void set() {
        int[] least = {1, 0, 0, 0, 0};
        int[] most = {9, 99, 20, 50, 99};
        int[] atFirst = {5, 10, 2, 5, 15};
        StandIns x = new StandIns();
        for (int what = 0; what <= 4; what++) {
            int w = what;
            T.due("21: set to the least", atFirst[w], () -> x.set(w, least[w]));
            T.due("21: set to the most", least[w], () -> x.set(w, most[w]));
            T.due("21: the setting", most[w], () -> x.setting(w));
            T.badArgument("21: below the least", () -> x.set(w, least[w] - 1));
            T.badArgument("21: above the most", () -> x.set(w, most[w] + 1));
        }
        T.badArgument("21: set(5, 1)", () -> x.set(5, 1));
        T.badArgument("21: set(-1, 1)", () -> x.set(-1, 1));
        T.badArgument("21: set(greatest, 1)", () -> x.set(Integer.MAX_VALUE, 1));
        StandIns y = Checks.house("Hr1py001");
        y.post();
        y.set(0, 1);
        T.due("21: what is posted stays", 1, () -> y.about(6));
    }

    private static void undo() {
        StandIns x = new StandIns();
        T.badState("22: undo() of nothing", x::undo);
        x.addPlayer();
        T.due("22: undo()", 0, x::undo);
        T.due("22: no player", 0, () -> x.about(1));
        T.badState("22: undo() is no action", x::undo);
        x.addPlayer();
        x.addRole(1);
        x.ready(0, 0, 0);
        x.play();
        T.due("22: a day that was called off", 3, x::undo);
        T.due("22: what made nothing different", 2, x::undo);
        T.due("22: the role is there", 1, () -> x.about(0));
        T.due("22: the role", 1, x::undo);
        T.due("22: the role is not there", 0, () -> x.about(0));
        x.addRole(7);
        T.badArgument("22: what throws is no action", () -> x.set(0, 0));
        x.append('H');
        x.clearText();
        x.save(0);
        x.simulate(1, 9);
        T.due("22: nor is what only tells, or saves", 1, x::undo);
        x.append('H');
        x.append('p');
        x.undo();
        T.due("22: the text is not taken back", 2, x::clearText);
    }

    private static void undoTakesBackAll() {
        List<Recipe.Step> actions = List.<Recipe.Step>of(
            StandIns::addPlayer, x -> x.ready(2, 0, 9), x -> x.first(0, 2), x -> x.away(1, 3), StandIns::post,
            x -> x.set(1, 77), StandIns::play, x -> x.dark(3), StandIns::post, StandIns::play);
        List<Recipe.Step> laterActions = List.<Recipe.Step>of(
            x -> x.first(0, 1), x -> x.promote(0), x -> x.addRole(3), StandIns::play);
        List<Recipe> before = new ArrayList<>();
        Recipe done = doAll(doAll(Recipe.house(TWO), actions, before), laterActions, before);
        for (int n = 13; n >= 0; n--) {
            Recipe back = done.times(13 - n, StandIns::undo);
            T.due("22: undo() with " + n + " left", n, () -> back.make().undo());
            String due = Snapshot.of(before.get(n).make());
            T.same("22: the state with " + n + " left", due, Snapshot.of(back.then(StandIns::undo).make()));
        }
        T.badState("22: none is left", () -> done.times(14, StandIns::undo).make().undo());
    }

    private static Recipe doAll(Recipe recipe, List<Recipe.Step> actions, List<Recipe> before) {
        Recipe done = recipe;
        for (Recipe.Step action : actions) {
            before.add(done);
            done = done.then(action);
        }
        return done;
    }

    private static void undoForgetsTheOldest() {
        StandIns x = new StandIns();
        for (int n = 1; n <= 31; n++) {
            x.dark(n);
        }
        int today = 31 * 32 / 2;
        for (int n = 31; n > 17; n--) {
            int left = n - 18;
            today -= n;
            int want = today;
            T.due("22: undo() of fourteen", left, x::undo);
            T.due("22: today", want, () -> x.about(2));
        }
        T.badState("22: the fifteenth is forgotten", x::undo);
        x.dark(1);
        T.due("22: one more action", 0, x::undo);
    }

    /** Six roles and ten players; the role r is played by 9 - r, who is its first player in every other role. */
    private static void fullHouse() {
        StandIns x = Checks.house("Hr1r2r3r4r5r6pppppppppp");
        for (int r = 0; r < 6; r++) {
            x.ready(9 - r, r, 9);
            x.ready(0, r, 1);
            if (r % 2 == 0) {
                x.first(r, 9 - r);
            }
        }
        T.due("17: post() in a full house", 19 + 18 + 57 + 36 + 95 + 54, x::post);
        for (int r = 0; r < 6; r++) {
            int role = r;
            T.due("17: posted for " + r, 9 - r, () -> x.role(role, 3));
        }
        T.due("25: missed() in a full house", 4, () -> {
            x.ready(0, 5, 0);
            return x.missed();
        });
        T.due("18: play() in a full house", 6 * 10 + 2 * 21 + 3 * 5, x::play);
        T.due("11: ranked(0) in a full house", 4, () -> x.ranked(0));
        T.due("11: ranked(9) in a full house", 3, () -> x.ranked(9));
        T.due("20: promote(1) in a full house", 8, () -> x.promote(1));
        T.due("20: promote(5) in a full house", 4, () -> x.promote(5));
        T.badState("20: promote(0) in a full house", () -> x.promote(0));
        T.outOfBounds("20: promote(6) in a full house", () -> x.promote(6));
        T.outOfBounds("8: player(10, 0) in a full house", () -> x.player(10, 0));
    }
}

import java.util.Random;

/** All promises: long runs of calls that are drawn from fixed seeds, each answered by a plain model, too. */
public final class ModelTest {
    private static final int RUNS = 4000;
    private static final int CALLS = 512;

    private final Random random;
    private final StandIns x = new StandIns();
    private final PlainModel model = new PlainModel();
    private final StringBuilder calls = new StringBuilder();
    private int made;
    // how many there are at most: small houses are cast by hand in no time, and tie more often
    private final int mostRoles;
    private final int mostPlayers;
    // a house that begins with many roles that can be cast, for drawn calls alone seldom come so far
    private final boolean beginsFull;

    private ModelTest(int seed) {
        random = new Random(seed);
        beginsFull = seed % 100 == 0;
        mostRoles = beginsFull ? from(4, 6) : from(1, 6);
        mostPlayers = beginsFull ? from(7, 8) : mostRoles > 3 ? 7 : from(1, 10);
    }

    public static void main(String[] args) {
        int runs = args.length > 0 ? Integer.parseInt(args[0]) : RUNS;
        for (int seed = 0; seed < runs; seed++) {
            if (!new ModelTest(seed).run()) {
                System.out.println("ModelTest: the run " + seed + " differs");
                System.exit(1);
            }
        }
        System.out.println("ModelTest: " + runs + " runs of " + CALLS + " calls, 0 wrong");
    }

    private boolean run() {
        if (beginsFull && !fillHouse()) {
            System.out.println(calls);
            return false;
        }
        for (int i = 0; i < 10 * CALLS && made < CALLS; i++) {
            if (!step()) {
                System.out.println(calls);
                return false;
            }
        }
        return true;
    }

    private boolean fillHouse() {
        boolean good = true;
        for (int i = 0; i < mostRoles; i++) {
            int weight = from(1, random.nextBoolean() ? 9 : 2);
            good = good && same("addRole(" + weight + ")", () -> x.addRole(weight), () -> model.addRole(weight));
        }
        for (int i = 0; i < mostPlayers; i++) {
            good = good && same("addPlayer()", x::addPlayer, model::addPlayer);
        }
        int mostDegree = random.nextBoolean() ? 9 : from(1, 2);
        for (int i = 0; i < mostRoles * mostPlayers; i++) {
            int p = i / mostRoles;
            int r = i % mostRoles;
            int degree = from(mostDegree == 2 ? 0 : 1, mostDegree);
            good = good && same("ready(" + p + ", " + r + ", " + degree + ")", () -> x.ready(p, r, degree), () -> model.ready(p, r, degree));
        }
        return good;
    }

    private boolean same(String call, Checks.Call mine, Checks.Call due) {
        if (made == CALLS) {
            return true;
        }
        made++;
        String got = answer(mine);
        String want = answer(due);
        calls.append(call).append(" = ").append(got).append('\n');
        if (!got.equals(want)) {
            calls.append("  due is ").append(want).append('\n');
        }
        return got.equals(want);
    }

    private static String answer(Checks.Call call) {
        try {
            return Long.toString(call.answer());
        } catch (RuntimeException e) {
            return e.getClass().getName();
        }
    }

    private int from(int least, int most) {
        return least + random.nextInt(most - least + 1);
    }

    /** Mostly in the range, now and then right outside of it, or far. */
    private int near(int least, int most) {
        int kind = random.nextInt(40);
        return kind == 0 ? least - 1 : kind == 1 ? most + 1 : kind == 2 ? random.nextInt() : from(least, most);
    }

    private int someRole() {
        return near(0, Math.max(0, model.about(0) - 1));
    }

    private int somePlayer() {
        return near(0, Math.max(0, model.about(1) - 1));
    }

    private boolean step() {
        int kind = from(beginsFull ? 4 : 0, 99);
        if (kind < 4) {
            return text();
        }
        if (kind < 60) {
            return action();
        }
        if (kind < 75) {
            return reading();
        }
        return wouldBe();
    }

    private boolean text() {
        if (random.nextInt(3) > 0) {
            return same("errorPosition()", x::errorPosition, model::errorPosition);
        }
        if (!same("clearText()", x::clearText, model::clearText)) {
            return false;
        }
        String text = someText();
        for (char c : text.toCharArray()) {
            if (!same("append(" + (int) c + ")", () -> x.append(c), () -> model.append(c))) {
                return false;
            }
        }
        return same("append(112)", () -> x.append('p'), () -> model.append('p'))
            && same("errorPosition()", x::errorPosition, model::errorPosition)
            && (random.nextInt(3) > 0 || same("load()", x::load, model::load));
    }

    private String someText() {
        StringBuilder s = new StringBuilder("H");
        int commands = random.nextInt(50);
        for (int i = 0; i < commands && s.length() < 117; i++) {
            char letter = "rppyyyyyfadg".charAt(random.nextInt(12));
            s.append(letter);
            int digits = letter == 'y' ? 3 : letter == 'f' || letter == 'a' ? 2 : letter == 'p' || letter == 'g' ? 0 : 1;
            for (int d = 1; d <= digits; d++) {
                boolean small = letter == 'y' && d < 3 || letter == 'f' || letter == 'a' && d == 1;
                s.append((char) ('0' + (small ? random.nextInt(4) : from(1, 9))));
            }
        }
        if (random.nextInt(4) == 0) {
            s.setCharAt(random.nextInt(s.length()), "Hrpyfadg0123456789 z\u00ff".charAt(random.nextInt(21)));
        }
        return s.toString();
    }

    private boolean action() {
        int r = someRole();
        int p = somePlayer();
        switch (random.nextInt(20)) {
            case 0:
                int weight = near(1, 9);
                return model.about(0) >= mostRoles && mostRoles < 6
                    || same("addRole(" + weight + ")", () -> x.addRole(weight), () -> model.addRole(weight));
            case 1:
                return model.about(1) >= mostPlayers && mostPlayers < 10 || same("addPlayer()", x::addPlayer, model::addPlayer);
            case 2: case 3: case 4: case 5: case 6:
                int degree = near(0, random.nextBoolean() ? 9 : 2);
                return same("ready(" + p + ", " + r + ", " + degree + ")", () -> x.ready(p, r, degree), () -> model.ready(p, r, degree));
            case 7:
                return same("first(" + r + ", " + p + ")", () -> x.first(r, p), () -> model.first(r, p));
            case 8: case 9:
                int days = near(1, random.nextInt(beginsFull ? 12 : 2) == 0 ? 99 : 3);
                return same("away(" + p + ", " + days + ")", () -> x.away(p, days), () -> model.away(p, days));
            case 10: case 11:
                return same("post()", x::post, model::post);
            case 12: case 13: case 14: case 15:
                return same("play()", x::play, model::play);
            case 16:
                int n = near(1, random.nextBoolean() ? 99 : 2);
                return same("dark(" + n + ")", () -> x.dark(n), () -> model.dark(n));
            case 17:
                return same("promote(" + r + ")", () -> x.promote(r), () -> model.promote(r));
            case 18:
                int what = near(0, 4);
                int v = near(0, random.nextBoolean() ? 9 : 100);
                return same("set(" + what + ", " + v + ")", () -> x.set(what, v), () -> model.set(what, v));
            default:
                return undos();
        }
    }

    private boolean undos() {
        int n = random.nextInt(beginsFull ? 40 : 4) == 0 ? 17 : 2;
        for (int i = 0; i < n; i++) {
            if (!same("undo()", x::undo, model::undo)) {
                return false;
            }
        }
        return true;
    }

    private boolean reading() {
        int r = someRole();
        int p = somePlayer();
        int what = near(0, 7);
        switch (random.nextInt(6)) {
            case 0:
                return same("about(" + what + ")", () -> x.about(what), () -> model.about(what));
            case 1:
                return same("role(" + r + ", " + what + ")", () -> x.role(r, what), () -> model.role(r, what));
            case 2:
                return same("player(" + p + ", " + what + ")", () -> x.player(p, what), () -> model.player(p, what));
            case 3:
                return same("both(" + p + ", " + r + ", " + what + ")", () -> x.both(p, r, what), () -> model.both(p, r, what));
            case 4:
                return same("setting(" + what + ")", () -> x.setting(what), () -> model.setting(what));
            default:
                return allReadings();
        }
    }

    /** One number of all there are, and of one more. */
    private boolean allReadings() {
        boolean good = true;
        int what = random.nextInt(8);
        for (int i = 0; i <= 10; i++) {
            int k = i;
            good = good && same("ranked(" + k + ")", () -> x.ranked(k), () -> model.ranked(k));
            good = good && same("about(" + k + ")", () -> x.about(k), () -> model.about(k));
            good = good && same("role(" + k + ", " + what + ")", () -> x.role(k, what), () -> model.role(k, what));
            good = good && same("player(" + k + ", " + what + ")", () -> x.player(k, what), () -> model.player(k, what));
            int r = random.nextInt(7);
            int w = random.nextInt(4);
            good = good && same("both(" + k + ", " + r + ", " + w + ")", () -> x.both(k, r, w), () -> model.both(k, r, w));
        }
        return good;
    }

    private boolean wouldBe() {
        int r = someRole();
        int p = somePlayer();
        int slot = near(0, 1);
        switch (random.nextInt(16)) {
            case 0: case 1:
                return same("strength()", x::strength, model::strength);
            case 2: case 3:
                return same("without(" + p + ")", () -> x.without(p), () -> model.without(p));
            case 4: case 5:
                return same("missed()", x::missed, model::missed);
            case 6:
                int days = near(1, 30);
                return same("coming(" + days + ")", () -> x.coming(days), () -> model.coming(days));
            case 7: case 8:
                return same("degreeFor(" + p + ", " + r + ")", () -> x.degreeFor(p, r), () -> model.degreeFor(p, r));
            case 9: case 10: case 11: case 12:
                int n = near(1, 3);
                long script = someScript(n);
                return same("runScript(" + n + ", " + script + ")", () -> x.runScript(n, script), () -> model.runScript(n, script));
            case 13:
                int m = near(1, 40);
                long seed = random.nextLong();
                return same("simulate(" + seed + ", " + m + ")", () -> x.simulate(seed, m), () -> model.simulate(seed, m));
            case 14:
                return same("save(" + slot + ")", () -> x.save(slot), () -> model.save(slot));
            default:
                return random.nextInt(3) > 0 || same("restore(" + slot + ")", () -> x.restore(slot), () -> model.restore(slot));
        }
    }

    private long someScript(int n) {
        if (random.nextInt(30) == 0) {
            return random.nextLong() >> random.nextInt(64);
        }
        long script = 0;
        for (int i = 0; i < Math.min(n, 4); i++) {
            script = script * 10000 + someGroup();
        }
        return script;
    }

    private int someGroup() {
        int p = from(0, Math.max(0, model.about(1) - 1));
        int r = from(0, Math.max(0, model.about(0) - 1));
        int off = random.nextInt(20) == 0 ? random.nextInt(10) * (random.nextBoolean() ? 100 : 1) : 0;
        switch (from(1, 10)) {
            case 1:
                return 1000 + 100 * p + 10 * r + from(0, 9);
            case 2:
                return 2000 + 100 * r + 10 * p + off % 10;
            case 3:
                return 3000 + 100 * p + from(0, 4) + (off > 0 ? 10 : 0);
            case 4:
                return 4000 + off;
            case 5:
                return 5000 + off;
            case 6:
                return 6000 + off + from(0, random.nextBoolean() ? 99 : 3);
            case 7:
                return 7000 + 100 * r + 10 * p + off % 10;
            case 8:
                return 8000 + Math.min(999, Math.max(0, model.strength() + from(-3, 3)));
            case 9:
                return 9000 + 100 * p + (model.about(1) > 0 ? Math.min(99, model.player(p, 0) + from(0, 40)) : 0);
            default:
                return random.nextInt(10000);
        }
    }
}

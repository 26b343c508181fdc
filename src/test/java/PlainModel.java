import java.util.ArrayList;
import java.util.Comparator;
import java.util.HashMap;
import java.util.LinkedList;
import java.util.List;
import java.util.Map;
import java.util.regex.Matcher;
import java.util.regex.Pattern;

/** The document once more, in the plainest way that the Java library allows, to compare with. */
final class PlainModel {
    private static final Pattern HOUSE =
        Pattern.compile("H(?:r[1-9]|p|y[0-9][0-5][0-9]|f[0-5][0-9]|a[0-9][1-9]|d[1-9]|g)*");

    private static final class Player {
        int pay;
        int back;
        int shows;
        final List<Integer> daysPlayed = new ArrayList<>();
        final Map<Integer, Integer> degree = new HashMap<>();
        final Map<Integer, Integer> times = new HashMap<>();

        Player copy() {
            Player p = new Player();
            p.pay = pay;
            p.back = back;
            p.shows = shows;
            p.daysPlayed.addAll(daysPlayed);
            p.degree.putAll(degree);
            p.times.putAll(times);
            return p;
        }

        int row(int today) {
            int n = 0;
            while (daysPlayed.contains(today - 1 - n)) {
                n++;
            }
            return n;
        }
    }

    private static final class State {
        final List<Integer> weights = new ArrayList<>();
        final Map<Integer, Integer> firsts = new HashMap<>();
        final List<Player> players = new ArrayList<>();
        final int[] settings = {5, 10, 2, 5, 15};
        List<Integer> posted;
        int today;
        int performed;
        int calledOff;
        int standIns;

        State copy() {
            State s = new State();
            s.weights.addAll(weights);
            s.firsts.putAll(firsts);
            for (Player p : players) {
                s.players.add(p.copy());
            }
            System.arraycopy(settings, 0, s.settings, 0, 5);
            s.posted = posted;
            s.today = today;
            s.performed = performed;
            s.calledOff = calledOff;
            s.standIns = standIns;
            return s;
        }

        boolean free(int p) {
            return players.get(p).back <= today && players.get(p).row(today) < settings[0];
        }

        int degree(int p, int r) {
            return players.get(p).degree.getOrDefault(r, 0);
        }

        int worth(int p, int r) {
            int first = firsts.getOrDefault(r, -1);
            return degree(p, r) == 0 ? 0 : weights.get(r) * (degree(p, r) + (first == p ? 10 : 0));
        }

        int sum(List<Integer> cast) {
            int sum = 0;
            for (int r = 0; r < cast.size(); r++) {
                sum += worth(cast.get(r), r);
            }
            return sum;
        }

        /** The best cast in which the one player does not play; null if there is none. */
        List<Integer> cast(int without) {
            return tryAll(new ArrayList<>(), null, without);
        }

        private List<Integer> tryAll(List<Integer> begun, List<Integer> bestSoFar, int without) {
            if (begun.size() == weights.size()) {
                return bestSoFar == null || sum(begun) > sum(bestSoFar) ? new ArrayList<>(begun) : bestSoFar;
            }
            List<Integer> best = bestSoFar;
            for (int p = 0; p < players.size(); p++) {
                if (p != without && free(p) && degree(p, begun.size()) > 0 && !begun.contains(p)) {
                    begun.add(p);
                    best = tryAll(begun, best, without);
                    begun.remove(begun.size() - 1);
                }
            }
            return best;
        }

        int strength(int without) {
            List<Integer> cast = cast(without);
            return cast == null ? -1 : sum(cast);
        }

        int play() {
            List<Integer> cast = cast(-1);
            int together = 0;
            if (cast == null) {
                calledOff++;
                together = -1;
            } else {
                performed++;
                for (int r = 0; r < cast.size(); r++) {
                    together += pay(cast.get(r), r);
                }
            }
            today++;
            posted = null;
            return together;
        }

        private int pay(int p, int r) {
            Player player = players.get(p);
            int pay = settings[1] + settings[2] * weights.get(r);
            if (firsts.getOrDefault(r, -1) != p) {
                pay += settings[3];
                standIns++;
            }
            if (posted != null && posted.get(r) != p) {
                pay += settings[4];
            }
            player.pay += pay;
            player.shows++;
            player.times.merge(r, 1, Integer::sum);
            player.daysPlayed.add(today);
            return pay;
        }
    }

    private State state = new State();
    private LinkedList<State> remembered = new LinkedList<>();
    private final State[] slots = new State[2];
    private String text = "";

    private void needRole(int r) {
        if (r < 0 || r >= state.weights.size()) {
            throw new IndexOutOfBoundsException();
        }
    }

    private void needPlayer(int p) {
        if (p < 0 || p >= state.players.size()) {
            throw new IndexOutOfBoundsException();
        }
    }

    private static void needArgument(boolean good) {
        if (!good) {
            throw new IllegalArgumentException();
        }
    }

    private static void needState(boolean good) {
        if (!good) {
            throw new IllegalStateException();
        }
    }

    private void remember() {
        remembered.addLast(state.copy());
        if (remembered.size() > 14) {
            remembered.removeFirst();
        }
    }

    int append(int c) {
        needArgument(c >= 0 && c <= 255);
        needState(text.length() < 120);
        text += (char) c;
        return text.length();
    }

    int clearText() {
        int n = text.length();
        text = "";
        return n;
    }

    int errorPosition() {
        for (int n = 0; n <= text.length(); n++) {
            Matcher m = HOUSE.matcher(text.substring(0, n));
            if (!m.matches() && !m.hitEnd()) {
                return n - 1;
            }
        }
        return HOUSE.matcher(text).matches() ? -1 : text.length();
    }

    int load() {
        needState(errorPosition() == -1);
        state = new State();
        int leftOut = 0;
        Matcher m = Pattern.compile("[a-z][0-9]*").matcher(text);
        while (m.find()) {
            try {
                command(m.group());
            } catch (RuntimeException e) {
                leftOut++;
            }
        }
        remembered.clear();
        slots[0] = null;
        slots[1] = null;
        return leftOut;
    }

    private void command(String c) {
        int[] d = c.substring(1).chars().map(x -> x - '0').toArray();
        switch (c.charAt(0)) {
            case 'r' -> addRole(d[0]);
            case 'p' -> addPlayer();
            case 'y' -> ready(d[0], d[1], d[2]);
            case 'f' -> first(d[0], d[1]);
            case 'a' -> away(d[0], d[1]);
            case 'd' -> dark(d[0]);
            default -> play();
        }
    }

    int about(int what) {
        needArgument(what >= 0 && what <= 7);
        int paid = state.players.stream().mapToInt(p -> p.pay).sum();
        int[] answers = {state.weights.size(), state.players.size(), state.today, state.performed, state.calledOff,
            paid, state.posted == null ? 0 : 1, state.standIns};
        return answers[what];
    }

    int role(int r, int what) {
        needRole(r);
        needArgument(what >= 0 && what <= 4);
        List<Integer> cast = state.cast(-1);
        int candidates = 0;
        for (int p = 0; p < state.players.size(); p++) {
            candidates += state.free(p) && state.degree(p, r) > 0 ? 1 : 0;
        }
        int[] answers = {state.weights.get(r), state.firsts.getOrDefault(r, -1), cast == null ? -1 : cast.get(r),
            state.posted == null ? -1 : state.posted.get(r), candidates};
        return answers[what];
    }

    int player(int p, int what) {
        needPlayer(p);
        needArgument(what >= 0 && what <= 5);
        List<Integer> cast = state.cast(-1);
        Player x = state.players.get(p);
        int[] answers = {x.pay, x.row(state.today), x.back > state.today ? x.back - state.today : 0,
            state.free(p) ? 1 : 0, x.shows, cast == null ? -1 : cast.indexOf(p)};
        return answers[what];
    }

    int both(int p, int r, int what) {
        needPlayer(p);
        needRole(r);
        needArgument(what >= 0 && what <= 2);
        int[] answers = {state.degree(p, r), state.players.get(p).times.getOrDefault(r, 0), state.worth(p, r)};
        return answers[what];
    }

    int setting(int what) {
        needArgument(what >= 0 && what <= 4);
        return state.settings[what];
    }

    int ranked(int k) {
        needArgument(k >= 0);
        List<Integer> order = new ArrayList<>();
        for (int p = 0; p < state.players.size(); p++) {
            order.add(p);
        }
        order.sort(Comparator.comparingInt((Integer p) -> -state.players.get(p).pay).thenComparingInt(p -> p));
        return k < order.size() ? order.get(k) : -1;
    }

    int addRole(int weight) {
        needArgument(weight >= 1 && weight <= 9);
        needState(state.weights.size() < 6 && state.posted == null);
        remember();
        state.weights.add(weight);
        return state.weights.size() - 1;
    }

    int addPlayer() {
        needState(state.players.size() < 10);
        remember();
        state.players.add(new Player());
        return state.players.size() - 1;
    }

    int ready(int p, int r, int degree) {
        needPlayer(p);
        needRole(r);
        needArgument(degree >= 0 && degree <= 9);
        remember();
        Integer previous = state.players.get(p).degree.put(r, degree);
        return previous == null ? 0 : previous;
    }

    int first(int r, int p) {
        needRole(r);
        needPlayer(p);
        remember();
        Integer previous = state.firsts.put(r, p);
        return previous == null ? -1 : previous;
    }

    int away(int p, int days) {
        needPlayer(p);
        needArgument(days >= 1 && days <= 99);
        remember();
        state.players.get(p).back = state.today + days;
        return state.today + days;
    }

    int post() {
        List<Integer> cast = state.cast(-1);
        needState(cast != null && !cast.isEmpty());
        remember();
        state.posted = cast;
        return state.sum(cast);
    }

    int play() {
        needState(!state.weights.isEmpty());
        remember();
        return state.play();
    }

    int dark(int n) {
        needArgument(n >= 1 && n <= 99);
        remember();
        state.today += n;
        state.posted = null;
        return state.today;
    }

    int promote(int r) {
        needRole(r);
        int best = -1;
        for (int p = state.players.size() - 1; p >= 0; p--) {
            if (both(p, r, 1) > 0 && (best == -1 || both(p, r, 1) >= both(best, r, 1))) {
                best = p;
            }
        }
        int first = state.firsts.getOrDefault(r, -1);
        needState(best != -1 && (first == -1 || both(best, r, 1) > both(first, r, 1)));
        remember();
        state.firsts.put(r, best);
        return best;
    }

    int set(int what, int v) {
        int[][] ranges = {{1, 9}, {0, 99}, {0, 20}, {0, 50}, {0, 99}};
        needArgument(what >= 0 && what <= 4 && v >= ranges[what][0] && v <= ranges[what][1]);
        remember();
        int previous = state.settings[what];
        state.settings[what] = v;
        return previous;
    }

    int undo() {
        needState(!remembered.isEmpty());
        state = remembered.removeLast();
        return remembered.size();
    }

    int strength() {
        return state.strength(-1);
    }

    int without(int p) {
        needPlayer(p);
        return state.strength(p);
    }

    int missed() {
        if (state.weights.isEmpty() || state.cast(-1) == null) {
            return -1;
        }
        int missed = -1;
        for (int p = 0; p < state.players.size(); p++) {
            if (state.free(p) && (missed == -1 || state.strength(p) < state.strength(missed))) {
                missed = p;
            }
        }
        return missed;
    }

    /** Does what is to be done on a copy, and puts everything back. */
    private int onCopy(java.util.function.IntSupplier what) {
        State kept = state;
        LinkedList<State> keptStates = remembered;
        state = state.copy();
        remembered = new LinkedList<>();
        try {
            return what.getAsInt();
        } finally {
            state = kept;
            remembered = keptStates;
        }
    }

    int coming(int n) {
        needArgument(n >= 1 && n <= 30);
        needState(!state.weights.isEmpty());
        return onCopy(() -> {
            int days = 0;
            for (int i = 0; i < n; i++) {
                days += state.cast(-1) != null ? 1 << i : 0;
                state.play();
            }
            return days;
        });
    }

    int degreeFor(int p, int r) {
        needPlayer(p);
        needRole(r);
        return onCopy(() -> {
            for (int d = 1; d <= 9; d++) {
                state.players.get(p).degree.put(r, d);
                List<Integer> cast = state.cast(-1);
                if (cast != null && cast.get(r) == p) {
                    return d;
                }
            }
            return -1;
        });
    }

    int runScript(int n, long script) {
        needArgument(n >= 1 && n <= 3 && script >= 0);
        String digits = Long.toString(script);
        needArgument(digits.length() <= 4 * n);
        String all = "0".repeat(4 * n - digits.length()) + digits;
        return onCopy(() -> {
            for (int i = 0; i < n; i++) {
                try {
                    if (!succeeds(all.substring(4 * i, 4 * i + 4))) {
                        return i;
                    }
                } catch (RuntimeException e) {
                    return i;
                }
            }
            return -1;
        });
    }

    private boolean succeeds(String group) {
        int[] d = group.chars().map(x -> x - '0').toArray();
        if (group.matches("1...")) {
            ready(d[1], d[2], d[3]);
        } else if (group.matches("2..0")) {
            first(d[1], d[2]);
        } else if (group.matches("3.0.")) {
            away(d[1], d[3]);
        } else if (group.equals("4000")) {
            post();
        } else if (group.equals("5000")) {
            return play() != -1;
        } else if (group.matches("60..")) {
            dark(Integer.parseInt(group.substring(2)));
        } else if (group.matches("7..0")) {
            needPlayer(d[2]);
            return role(d[1], 2) == d[2];
        } else if (group.matches("8...")) {
            return state.cast(-1) != null && strength() >= Integer.parseInt(group.substring(1));
        } else if (group.matches("9...")) {
            return player(d[1], 0) >= Integer.parseInt(group.substring(2));
        } else {
            return false;
        }
        return true;
    }

    int simulate(long seed, int m) {
        needArgument(m >= 1 && m <= 40);
        return onCopy(() -> {
            int performed = state.performed;
            int calledOff = state.calledOff;
            long x = seed;
            for (int day = 0; day < m && !state.players.isEmpty() && !state.weights.isEmpty(); day++) {
                x = x * 6364136223846793005L + 1442695040888963407L;
                int r = (int) (x >>> 33);
                int p = r / 8 % state.players.size();
                if (r % 8 == 1 && state.cast(-1) != null) {
                    post();
                }
                if (r % 8 <= 1) {
                    away(p, r % 8 == 0 ? 1 + r / 128 % 5 : 1);
                }
                if (r % 8 == 2) {
                    dark(1);
                } else {
                    play();
                }
            }
            return 1000 * (state.performed - performed) + state.calledOff - calledOff;
        });
    }

    int save(int slot) {
        if (slot != 0 && slot != 1) {
            throw new IndexOutOfBoundsException();
        }
        slots[slot] = state.copy();
        return state.today;
    }

    int restore(int slot) {
        if (slot != 0 && slot != 1) {
            throw new IndexOutOfBoundsException();
        }
        needState(slots[slot] != null);
        state = slots[slot].copy();
        remembered.clear();
        return state.today;
    }
}

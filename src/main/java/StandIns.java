/** Stand-ins of a theatre: who plays what today, and what it would be without a player. */
public final class StandIns {
    public static final int NONE = -1;

    private static final int MOST_ROLES = 6;
    private static final int MOST_PLAYERS = 10;
    private static final int MOST_SIGNS = 120;
    private static final int MOST_REMEMBERED = 14;
    private static final int MOST_WEIGHT = 9;
    private static final int MOST_DEGREE = 9;
    private static final int MOST_DAYS = 99;
    private static final int SLOTS = 2;

    private static final int IN_A_ROW = 0;
    private static final int BASE = 1;
    private static final int RATE = 2;
    private static final int EXTRA = 3;
    private static final int LATE_FEE = 4;
    private static final int SETTINGS = 5;
    private static final int[] SETTING_AT_FIRST = {5, 10, 2, 5, 15};
    private static final int[] SETTING_LEAST = {1, 0, 0, 0, 0};
    private static final int[] SETTING_MOST = {9, 99, 20, 50, 99};

    private final Text text;
    private final House house;
    private final Casting casting;
    private final Trial trial;
    private final History history;
    private final House[] slots;
    private final boolean[] saved;

    public StandIns() {
        text = new Text();
        house = new House();
        casting = new Casting();
        trial = new Trial();
        history = new History();
        slots = new House[SLOTS];
        for (int i = 0; i < SLOTS; i++) {
            slots[i] = new House();
        }
        saved = new boolean[SLOTS];
    }

    // ---- text

    public int append(int c) throws IllegalArgumentException, IllegalStateException {
        needRange(c, 0, 255);
        if (text.isFull()) {
            throw new IllegalStateException("the text is full");
        }
        text.put(c);
        return text.size();
    }

    public int clearText() {
        int previous = text.size();
        text.empty();
        return previous;
    }

    public int errorPosition() {
        return text.firstError();
    }

    public int load() throws IllegalStateException {
        if (text.firstError() != NONE) {
            throw new IllegalStateException("the text is not a house");
        }
        house.empty();
        history.forget();
        for (int i = 0; i < SLOTS; i++) {
            saved[i] = false;
        }
        return text.doCommands(house, casting);
    }

    // ---- what there is

    public int about(int what) throws IllegalArgumentException {
        switch (what) {
            case 0:
                return house.roleCount();
            case 1:
                return house.playerCount();
            case 2:
                return house.dayNow();
            case 3:
                return house.performedCount();
            case 4:
                return house.calledOffCount();
            case 5:
                return house.paidTogether();
            case 6:
                return house.isPosted() ? 1 : 0;
            case 7:
                return house.standInCount();
            default:
                throw new IllegalArgumentException("no such number");
        }
    }

    public int role(int r, int what) throws IndexOutOfBoundsException, IllegalArgumentException {
        needRole(r);
        switch (what) {
            case 0:
                return house.weightOf(r);
            case 1:
                return house.firstOf(r);
            case 2:
                casting.seek(house, house.freePlayers());
                return casting.playerOf(r);
            case 3:
                return house.postedFor(r);
            case 4:
                return house.candidateCount(r);
            default:
                throw new IllegalArgumentException("no such number of a role");
        }
    }

    public int player(int p, int what) throws IndexOutOfBoundsException, IllegalArgumentException {
        needPlayer(p);
        switch (what) {
            case 0:
                return house.payOf(p);
            case 1:
                return house.rowOf(p);
            case 2:
                return house.daysStillAway(p);
            case 3:
                return house.isFree(p) ? 1 : 0;
            case 4:
                return house.showsOf(p);
            case 5:
                casting.seek(house, house.freePlayers());
                return casting.roleOf(p);
            default:
                throw new IllegalArgumentException("no such number of a player");
        }
    }

    public int both(int p, int r, int what) throws IndexOutOfBoundsException, IllegalArgumentException {
        needPlayer(p);
        needRole(r);
        switch (what) {
            case 0:
                return house.degreeOf(p, r);
            case 1:
                return house.timesOf(p, r);
            case 2:
                return house.worthOf(p, r);
            default:
                throw new IllegalArgumentException("no such number of a player and a role");
        }
    }

    public int setting(int what) throws IllegalArgumentException {
        needRange(what, 0, SETTINGS - 1);
        return house.settingOf(what);
    }

    public int ranked(int k) throws IllegalArgumentException {
        if (k < 0) {
            throw new IllegalArgumentException("there is no negative place");
        }
        return house.playerAtPlace(k);
    }

    // ---- actions

    public int addRole(int weight) throws IllegalArgumentException, IllegalStateException {
        needRange(weight, 1, MOST_WEIGHT);
        if (!house.takesRole()) {
            throw new IllegalStateException("no role can be added");
        }
        history.remember(house);
        house.putRole(weight);
        return house.roleCount() - 1;
    }

    public int addPlayer() throws IllegalStateException {
        if (!house.takesPlayer()) {
            throw new IllegalStateException("no player can be added");
        }
        history.remember(house);
        house.putPlayer();
        return house.playerCount() - 1;
    }

    public int ready(int p, int r, int degree) throws IndexOutOfBoundsException, IllegalArgumentException {
        needPlayer(p);
        needRole(r);
        needRange(degree, 0, MOST_DEGREE);
        history.remember(house);
        int previous = house.degreeOf(p, r);
        house.putDegree(p, r, degree);
        return previous;
    }

    public int first(int r, int p) throws IndexOutOfBoundsException {
        needRole(r);
        needPlayer(p);
        history.remember(house);
        int previous = house.firstOf(r);
        house.putFirst(r, p);
        return previous;
    }

    public int away(int p, int days) throws IndexOutOfBoundsException, IllegalArgumentException {
        needPlayer(p);
        needRange(days, 1, MOST_DAYS);
        history.remember(house);
        house.sendAway(p, days);
        return house.dayNow() + days;
    }

    public int post() throws IllegalStateException {
        if (house.roleCount() == 0) {
            throw new IllegalStateException("there are no roles");
        }
        int sum = casting.seek(house, house.freePlayers());
        if (sum == NONE) {
            throw new IllegalStateException("there is no cast");
        }
        history.remember(house);
        house.postCast(casting);
        return sum;
    }

    public int play() throws IllegalStateException {
        needSomeRole();
        history.remember(house);
        return house.playDay(casting);
    }

    public int dark(int n) throws IllegalArgumentException {
        needRange(n, 1, MOST_DAYS);
        history.remember(house);
        house.passDays(n);
        return house.dayNow();
    }

    public int promote(int r) throws IndexOutOfBoundsException, IllegalStateException {
        needRole(r);
        int p = house.promotable(r);
        if (p == NONE) {
            throw new IllegalStateException("nobody has played it more often");
        }
        history.remember(house);
        house.putFirst(r, p);
        return p;
    }

    public int set(int what, int v) throws IllegalArgumentException {
        needRange(what, 0, SETTINGS - 1);
        needRange(v, SETTING_LEAST[what], SETTING_MOST[what]);
        history.remember(house);
        int previous = house.settingOf(what);
        house.putSetting(what, v);
        return previous;
    }

    public int undo() throws IllegalStateException {
        if (history.isEmpty()) {
            throw new IllegalStateException("no state is remembered");
        }
        history.takeBack(house);
        return history.size();
    }

    // ---- what would be

    public int strength() {
        return casting.seek(house, house.freePlayers());
    }

    public int without(int p) throws IndexOutOfBoundsException {
        needPlayer(p);
        return casting.seek(house, house.freePlayersBut(p));
    }

    public int missed() {
        if (house.roleCount() == 0 || casting.seek(house, house.freePlayers()) == NONE) {
            return NONE;
        }
        return casting.mostMissed(house);
    }

    public int coming(int n) throws IllegalArgumentException, IllegalStateException {
        needRange(n, 1, 30);
        needSomeRole();
        trial.begin(house);
        return trial.castDays(n, casting);
    }

    public int degreeFor(int p, int r) throws IndexOutOfBoundsException {
        needPlayer(p);
        needRole(r);
        trial.begin(house);
        return trial.leastDegree(p, r, casting);
    }

    // ---- scripts, simulations

    public int runScript(int n, long script) throws IllegalArgumentException {
        needRange(n, 1, 3);
        if (script < 0 || Trial.withoutGroups(script, n) != 0) {
            throw new IllegalArgumentException("the script is no number of so many digits");
        }
        trial.begin(house);
        return trial.firstFailing(n, script, casting);
    }

    public int simulate(long seed, int m) throws IllegalArgumentException {
        needRange(m, 1, 40);
        trial.begin(house);
        return trial.simulated(seed, m, casting);
    }

    // ---- save slots

    public int save(int slot) throws IndexOutOfBoundsException {
        needSlot(slot);
        slots[slot].copyFrom(house);
        saved[slot] = true;
        return house.dayNow();
    }

    public int restore(int slot) throws IndexOutOfBoundsException, IllegalStateException {
        needSlot(slot);
        if (!saved[slot]) {
            throw new IllegalStateException("nothing has been saved in the slot");
        }
        house.copyFrom(slots[slot]);
        history.forget();
        return house.dayNow();
    }

    // ---- what calls need

    private void needRole(int r) {
        if (!house.hasRole(r)) {
            throw new IndexOutOfBoundsException("there is no such role");
        }
    }

    private void needPlayer(int p) {
        if (!house.hasPlayer(p)) {
            throw new IndexOutOfBoundsException("there is no such player");
        }
    }

    private void needSomeRole() {
        if (house.roleCount() == 0) {
            throw new IllegalStateException("there are no roles");
        }
    }

    private static void needSlot(int slot) {
        if (slot < 0 || slot >= SLOTS) {
            throw new IndexOutOfBoundsException("there is no such save slot");
        }
    }

    private static void needRange(int v, int least, int most) {
        if (v < least || v > most) {
            throw new IllegalArgumentException("an argument is out of its range");
        }
    }

    /** The state: all but the text, the remembered states and the save slots. */
    private static final class House {
        private final int[] weights = new int[MOST_ROLES];
        private final int[] firstPlayers = new int[MOST_ROLES];
        private final int[] postedPlayers = new int[MOST_ROLES];
        private final int[] degrees = new int[MOST_ROLES * MOST_PLAYERS];
        private final int[] times = new int[MOST_ROLES * MOST_PLAYERS];
        private final int[] pays = new int[MOST_PLAYERS];
        private final int[] rows = new int[MOST_PLAYERS];
        private final int[] backDays = new int[MOST_PLAYERS];
        private final int[] shows = new int[MOST_PLAYERS];
        private final int[] settings = new int[SETTINGS];
        private int roles;
        private int players;
        private int today;
        private int performed;
        private int calledOff;
        private int standIns;
        private boolean posted;

        House() {
            empty();
        }

        void empty() {
            fill(weights, 0);
            fill(firstPlayers, NONE);
            fill(postedPlayers, NONE);
            fill(degrees, 0);
            fill(times, 0);
            fill(pays, 0);
            fill(rows, 0);
            fill(backDays, 0);
            fill(shows, 0);
            for (int i = 0; i < SETTINGS; i++) {
                settings[i] = SETTING_AT_FIRST[i];
            }
            roles = 0;
            players = 0;
            today = 0;
            performed = 0;
            calledOff = 0;
            standIns = 0;
            posted = false;
        }

        void copyFrom(House other) {
            copy(other.weights, weights);
            copy(other.firstPlayers, firstPlayers);
            copy(other.postedPlayers, postedPlayers);
            copy(other.degrees, degrees);
            copy(other.times, times);
            copy(other.pays, pays);
            copy(other.rows, rows);
            copy(other.backDays, backDays);
            copy(other.shows, shows);
            copy(other.settings, settings);
            roles = other.roles;
            players = other.players;
            today = other.today;
            performed = other.performed;
            calledOff = other.calledOff;
            standIns = other.standIns;
            posted = other.posted;
        }

        private static void fill(int[] row, int v) {
            for (int i = 0; i < row.length; i++) {
                row[i] = v;
            }
        }

        private static void copy(int[] from, int[] to) {
            for (int i = 0; i < from.length && i < to.length; i++) {
                to[i] = from[i];
            }
        }

        private static int cell(int p, int r) {
            return r * MOST_PLAYERS + p;
        }

        boolean hasRole(int r) {
            return r >= 0 && r < roles;
        }

        boolean hasPlayer(int p) {
            return p >= 0 && p < players;
        }

        int roleCount() {
            return roles;
        }

        int playerCount() {
            return players;
        }

        int dayNow() {
            return today;
        }

        int performedCount() {
            return performed;
        }

        int calledOffCount() {
            return calledOff;
        }

        int standInCount() {
            return standIns;
        }

        boolean isPosted() {
            return posted;
        }

        int paidTogether() {
            int sum = 0;
            for (int p = 0; p < players; p++) {
                sum += pays[p];
            }
            return sum;
        }

        int weightOf(int r) {
            return weights[r];
        }

        int firstOf(int r) {
            return firstPlayers[r];
        }

        int postedFor(int r) {
            return posted ? postedPlayers[r] : NONE;
        }

        int candidateCount(int r) {
            int count = 0;
            for (int p = 0; p < players; p++) {
                if (isFree(p) && degrees[cell(p, r)] > 0) {
                    count++;
                }
            }
            return count;
        }

        int payOf(int p) {
            return pays[p];
        }

        int rowOf(int p) {
            return rows[p];
        }

        int showsOf(int p) {
            return shows[p];
        }

        int daysStillAway(int p) {
            return Math.max(0, backDays[p] - today);
        }

        boolean isFree(int p) {
            return backDays[p] <= today && rows[p] < settings[IN_A_ROW];
        }

        /** A set of players is an int with the bit p for the player p. */
        int freePlayers() {
            int free = 0;
            for (int p = 0; p < players; p++) {
                if (isFree(p)) {
                    free |= 1 << p;
                }
            }
            return free;
        }

        int freePlayersBut(int p) {
            return freePlayers() & ~(1 << p);
        }

        int degreeOf(int p, int r) {
            return degrees[cell(p, r)];
        }

        int timesOf(int p, int r) {
            return times[cell(p, r)];
        }

        int worthOf(int p, int r) {
            int degree = degrees[cell(p, r)];
            if (degree == 0) {
                return 0;
            }
            return weights[r] * (firstPlayers[r] == p ? degree + 10 : degree);
        }

        int settingOf(int what) {
            return settings[what];
        }

        int playerAtPlace(int k) {
            for (int p = 0; p < players; p++) {
                if (placeOf(p) == k) {
                    return p;
                }
            }
            return NONE;
        }

        private int placeOf(int p) {
            int place = 0;
            for (int q = 0; q < players; q++) {
                if (pays[q] > pays[p] || pays[q] == pays[p] && q < p) {
                    place++;
                }
            }
            return place;
        }

        boolean takesRole() {
            return roles < MOST_ROLES && !posted;
        }

        boolean takesPlayer() {
            return players < MOST_PLAYERS;
        }

        // The changes below answer whether they could be done, for texts and scripts leave out what cannot.

        boolean putRole(int weight) {
            if (!takesRole()) {
                return false;
            }
            weights[roles] = weight;
            roles++;
            return true;
        }

        boolean putPlayer() {
            if (!takesPlayer()) {
                return false;
            }
            players++;
            return true;
        }

        boolean putDegree(int p, int r, int degree) {
            if (!hasPlayer(p) || !hasRole(r)) {
                return false;
            }
            degrees[cell(p, r)] = degree;
            return true;
        }

        boolean putFirst(int r, int p) {
            if (!hasRole(r) || !hasPlayer(p)) {
                return false;
            }
            firstPlayers[r] = p;
            return true;
        }

        boolean sendAway(int p, int days) {
            if (!hasPlayer(p) || days < 1 || days > MOST_DAYS) {
                return false;
            }
            backDays[p] = today + days;
            return true;
        }

        boolean postCast(Casting casting) {
            if (roles == 0 || casting.seek(this, freePlayers()) == NONE) {
                return false;
            }
            for (int r = 0; r < roles; r++) {
                postedPlayers[r] = casting.playerOf(r);
            }
            posted = true;
            return true;
        }

        boolean passDays(int n) {
            if (n < 1 || n > MOST_DAYS) {
                return false;
            }
            fill(rows, 0);
            today += n;
            posted = false;
            return true;
        }

        void putSetting(int what, int v) {
            settings[what] = v;
        }

        /** Answers what those who play get together, NONE if the performance is called off. */
        int playDay(Casting casting) {
            int paid = NONE;
            if (casting.seek(this, freePlayers()) == NONE) {
                calledOff++;
            } else {
                paid = perform(casting);
            }
            for (int p = 0; p < players; p++) {
                rows[p] = casting.roleOf(p) == NONE ? 0 : rows[p] + 1;
            }
            today++;
            posted = false;
            return paid;
        }

        private int perform(Casting casting) {
            int paid = 0;
            for (int r = 0; r < roles; r++) {
                int p = casting.playerOf(r);
                if (hasPlayer(p)) {
                    paid += payFor(r, p);
                }
            }
            performed++;
            return paid;
        }

        private int payFor(int r, int p) {
            int pay = settings[BASE] + weights[r] * settings[RATE];
            if (firstPlayers[r] != p) {
                pay += settings[EXTRA];
                standIns++;
            }
            if (posted && postedPlayers[r] != p) {
                pay += settings[LATE_FEE];
            }
            pays[p] += pay;
            shows[p]++;
            times[cell(p, r)]++;
            return pay;
        }

        /** The player whom a promotion would make the first one of a role, NONE if it would not. */
        int promotable(int r) {
            int held = firstPlayers[r];
            int most = hasPlayer(held) ? times[cell(held, r)] : 0;
            int found = NONE;
            for (int p = 0; p < players; p++) {
                if (times[cell(p, r)] > most) {
                    most = times[cell(p, r)];
                    found = p;
                }
            }
            return found;
        }
    }

    /** Finds the cast of a day; it is asked about the cast that it sought last. */
    private static final class Casting {
        // For each set of players who take the roles from 0 on, the greatest sum of the worths
        // of the roles behind them: all orders of ten players in six roles would be too many.
        private final int[] best = new int[1 << MOST_PLAYERS];
        // 0 where the player is not free, too
        private final int[] worths = new int[MOST_ROLES * MOST_PLAYERS];
        private final int[] cast = new int[MOST_ROLES];
        private int roles;
        private int players;
        private boolean found;

        /** Answers the strength of the cast out of the free players, NONE if there is no cast. */
        int seek(House house, int free) {
            roles = house.roleCount();
            players = house.playerCount();
            for (int r = 0; r < roles; r++) {
                for (int p = 0; p < players; p++) {
                    worths[r * MOST_PLAYERS + p] = isIn(free, p) ? house.worthOf(p, r) : 0;
                }
            }
            // the larger sets first, for the smaller ones are made up from them
            for (int taken = (1 << players) - 1; taken >= 0; taken--) {
                if ((taken & ~free) == 0 && Integer.bitCount(taken) <= roles) {
                    best[taken] = bestBehind(taken);
                }
            }
            found = best[0] != NONE;
            chooseLowest();
            return best[0];
        }

        private static boolean isIn(int set, int p) {
            return (set >> p & 1) == 1;
        }

        private int bestBehind(int taken) {
            int r = Integer.bitCount(taken);
            if (r >= roles) {
                return 0;
            }
            int most = NONE;
            for (int p = 0; p < players; p++) {
                most = Math.max(most, sumWith(p, r, taken));
            }
            return most;
        }

        /** The greatest sum from the role r on if p plays it, NONE if p cannot. */
        private int sumWith(int p, int r, int taken) {
            int worth = worths[r * MOST_PLAYERS + p];
            if (worth == 0 || isIn(taken, p)) {
                return NONE;
            }
            int behind = best[taken | 1 << p];
            return behind == NONE ? NONE : worth + behind;
        }

        private void chooseLowest() {
            int taken = 0;
            for (int r = 0; r < roles; r++) {
                cast[r] = NONE;
                for (int p = 0; found && p < players && cast[r] == NONE; p++) {
                    if (sumWith(p, r, taken) == best[taken]) {
                        cast[r] = p;
                        taken |= 1 << p;
                    }
                }
            }
        }

        int playerOf(int r) {
            return r >= 0 && r < roles ? cast[r] : NONE;
        }

        int roleOf(int p) {
            for (int r = 0; r < roles; r++) {
                if (cast[r] == p) {
                    return r;
                }
            }
            return NONE;
        }

        /** NONE, for no cast, is below every strength: so the least one is what is missed most. */
        int mostMissed(House house) {
            int missed = NONE;
            int least = 0;
            for (int p = 0; p < house.playerCount(); p++) {
                if (house.isFree(p)) {
                    int sum = seek(house, house.freePlayersBut(p));
                    if (missed == NONE || sum < least) {
                        missed = p;
                        least = sum;
                    }
                }
            }
            return missed;
        }
    }

    /** A copy of the state, for what would be. */
    private static final class Trial {
        private final House house = new House();

        void begin(House original) {
            house.copyFrom(original);
        }

        int castDays(int n, Casting casting) {
            int days = 0;
            for (int i = 0; i < n; i++) {
                if (house.playDay(casting) != NONE) {
                    days |= 1 << i;
                }
            }
            return days;
        }

        int leastDegree(int p, int r, Casting casting) {
            for (int degree = 1; degree <= MOST_DEGREE; degree++) {
                house.putDegree(p, r, degree);
                if (plays(p, r, casting)) {
                    return degree;
                }
            }
            return NONE;
        }

        private boolean plays(int p, int r, Casting casting) {
            casting.seek(house, house.freePlayers());
            return house.hasPlayer(p) && casting.playerOf(r) == p;
        }

        /** What is left of a script ahead of so many groups of four digits. */
        static long withoutGroups(long script, int groups) {
            long rest = script;
            for (int i = 0; i < groups; i++) {
                rest = rest / 10000;
            }
            return rest;
        }

        int firstFailing(int n, long script, Casting casting) {
            for (int i = 0; i < n; i++) {
                if (!succeeds((int) (withoutGroups(script, n - 1 - i) % 10000), casting)) {
                    return i;
                }
            }
            return NONE;
        }

        private boolean succeeds(int group, Casting casting) {
            int d2 = group / 100 % 10;
            int d3 = group / 10 % 10;
            int d4 = group % 10;
            switch (group / 1000) {
                case 1:
                    return house.putDegree(d2, d3, d4);
                case 2:
                    return d4 == 0 && house.putFirst(d2, d3);
                case 3:
                    return d3 == 0 && house.sendAway(d2, d4);
                case 4:
                    return group == 4000 && house.postCast(casting);
                case 5:
                    return group == 5000 && house.roleCount() > 0 && house.playDay(casting) != NONE;
                case 6:
                    return d2 == 0 && house.passDays(10 * d3 + d4);
                case 7:
                    return d4 == 0 && plays(d3, d2, casting);
                case 8:
                    // without roles the cast of nobody has the strength 0, but NONE is no strength
                    return casting.seek(house, house.freePlayers()) >= group % 1000;
                case 9:
                    return house.hasPlayer(d2) && house.payOf(d2) >= group % 100;
                default:
                    return false;
            }
        }

        int simulated(long seed, int m, Casting casting) {
            if (house.playerCount() == 0 || house.roleCount() == 0) {
                return 0;
            }
            int performedBefore = house.performedCount();
            int calledOffBefore = house.calledOffCount();
            long x = seed;
            for (int i = 0; i < m; i++) {
                x = x * 6364136223846793005L + 1442695040888963407L;
                simulateDay((int) (x >>> 33), casting);
            }
            return 1000 * (house.performedCount() - performedBefore) + house.calledOffCount() - calledOffBefore;
        }

        private void simulateDay(int r, Casting casting) {
            int players = house.playerCount();
            int p = players > 0 ? r / 8 % players : NONE;
            switch (r % 8) {
                case 0:
                    house.sendAway(p, 1 + r / 128 % 5);
                    break;
                case 1:
                    house.postCast(casting);
                    house.sendAway(p, 1);
                    break;
                case 2:
                    house.passDays(1);
                    return;
                default:
                    break;
            }
            house.playDay(casting);
        }
    }

    /** The states ahead of the last actions, in a ring that the oldest one leaves first. */
    private static final class History {
        private final House[] states = new House[MOST_REMEMBERED];
        private int count;
        private int next;

        History() {
            for (int i = 0; i < MOST_REMEMBERED; i++) {
                states[i] = new House();
            }
        }

        boolean isEmpty() {
            return count == 0;
        }

        int size() {
            return count;
        }

        void forget() {
            count = 0;
        }

        void remember(House house) {
            states[next].copyFrom(house);
            next = next + 1 < MOST_REMEMBERED ? next + 1 : 0;
            if (count < MOST_REMEMBERED) {
                count++;
            }
        }

        void takeBack(House house) {
            if (count == 0) {
                return;
            }
            next = next > 0 ? next - 1 : MOST_REMEMBERED - 1;
            count--;
            house.copyFrom(states[next]);
        }
    }

    /** The text buffer, and the reading of houses in it. */
    private static final class Text {
        private final char[] signs = new char[MOST_SIGNS];
        private int length;

        int size() {
            return length;
        }

        boolean isFull() {
            return length >= MOST_SIGNS;
        }

        void put(int c) {
            if (!isFull()) {
                signs[length] = (char) c;
                length++;
            }
        }

        void empty() {
            length = 0;
        }

        int firstError() {
            if (length == 0 || signs[0] != 'H') {
                return 0;
            }
            for (int at = 1; at < length; at += 1 + digitsBehind(signs[at])) {
                if (!isCommand(signs[at])) {
                    return at;
                }
                int error = errorBehind(at);
                if (error != NONE) {
                    return error;
                }
            }
            return NONE;
        }

        private int errorBehind(int at) {
            for (int i = 1; i <= digitsBehind(signs[at]); i++) {
                if (at + i >= length) {
                    return length;
                }
                char c = signs[at + i];
                if (c < leastDigit(signs[at], i) || c > greatestDigit(signs[at], i)) {
                    return at + i;
                }
            }
            return NONE;
        }

        private static boolean isCommand(char letter) {
            return letter == 'p' || letter == 'g' || digitsBehind(letter) > 0;
        }

        private static int digitsBehind(char letter) {
            switch (letter) {
                case 'r':
                case 'd':
                    return 1;
                case 'f':
                case 'a':
                    return 2;
                case 'y':
                    return 3;
                default:
                    return 0;
            }
        }

        private static char leastDigit(char letter, int place) {
            boolean fromOne = letter == 'r' || letter == 'd' || letter == 'a' && place == 2;
            return fromOne ? '1' : '0';
        }

        private static char greatestDigit(char letter, int place) {
            boolean isRole = letter == 'y' && place == 2 || letter == 'f' && place == 1;
            return isRole ? '5' : '9';
        }

        /** Does the commands of a text that is a house; answers how many are left out. */
        int doCommands(House house, Casting casting) {
            int leftOut = 0;
            for (int at = 1; at < length; at += 1 + digitsBehind(signs[at])) {
                if (!isDone(at, house, casting)) {
                    leftOut++;
                }
            }
            return leftOut;
        }

        private boolean isDone(int at, House house, Casting casting) {
            switch (signs[at]) {
                case 'r':
                    return house.putRole(digit(at + 1));
                case 'p':
                    return house.putPlayer();
                case 'y':
                    return house.putDegree(digit(at + 1), digit(at + 2), digit(at + 3));
                case 'f':
                    return house.putFirst(digit(at + 1), digit(at + 2));
                case 'a':
                    return house.sendAway(digit(at + 1), digit(at + 2));
                case 'd':
                    return house.passDays(digit(at + 1));
                default:
                    if (house.roleCount() == 0) {
                        return false;
                    }
                    house.playDay(casting);
                    return true;
            }
        }

        private int digit(int at) {
            return at >= 0 && at < length ? signs[at] - '0' : 0;
        }
    }
}

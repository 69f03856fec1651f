import java.util.Arrays;

/**
 * A book of trains with their stops and days, set into tables of the fewest rows, and the soonest
 * ways from station to station. What a call works with is made once and used again, because all
 * calls of a run share one room.
 */
public final class TrainBook {
    public static final int NONE = -1;

    private static final int STATIONS = 12;
    private static final int MAX_TRAINS = 10;
    private static final int MAX_STOPS = 7;
    private static final int WEEK = 7;
    private static final int ALL_DAYS = 127;
    private static final int MINUTES = 1440;
    private static final int MAX_SIGNS = 13;
    private static final int FIRST_CHANGE = 5;
    private static final int MAX_CHANGE = 60;
    private static final int MAX_COLUMNS = 6;
    private static final int MAX_ROWS = MAX_COLUMNS * MAX_STOPS;
    private static final int BLANK = -1;
    private static final int PAST = -2;
    private static final int NO_CELL = NONE - 2;

    private final Train[] trains = new Train[MAX_TRAINS];
    private final SignBook signBook = new SignBook();
    private final Table sheet = new Table();
    private final WayFinder finder = new WayFinder();
    private int trainCount;
    private int changeMinutes = FIRST_CHANGE;

    public TrainBook() {
        for (int t = 0; t < MAX_TRAINS; t++) {
            trains[t] = new Train();
        }
    }

    public int train(int days) {
        if (!areDays(days) || trainCount >= MAX_TRAINS) {
            return NONE;
        }
        trains[trainCount].onDays = days;
        trainCount++;
        return trainCount - 1;
    }

    public int stop(int t, int station, int comes, int goes) {
        Train train = trainOf(t);
        if (train == null || !isStation(station) || !train.takes(station, comes, goes)) {
            return NONE;
        }
        train.add(station, comes, goes);
        return train.stops;
    }

    public boolean days(int t, int days) {
        Train train = trainOf(t);
        if (train == null || !areDays(days)) {
            return false;
        }
        train.onDays = days;
        return true;
    }

    public boolean cut(int t) {
        Train train = trainOf(t);
        if (train == null || train.stops == 0) {
            return false;
        }
        train.dropLast();
        return true;
    }

    public boolean shift(int t, int minutes) {
        Train train = trainOf(t);
        if (train == null || !train.staysInDay(minutes)) {
            return false;
        }
        train.move(minutes);
        return true;
    }

    public boolean sign(int i, int set) {
        if (i < WEEK || i >= MAX_SIGNS || set < 0 || set > ALL_DAYS) {
            return false;
        }
        signBook.tell(i - WEEK, set);
        return true;
    }

    public boolean change(int minutes) {
        if (minutes < 0 || minutes > MAX_CHANGE) {
            return false;
        }
        changeMinutes = minutes;
        return true;
    }

    public int about(int what) {
        if (what < 100) {
            return aboutBook(what);
        }
        Train train = trainOf(what / 100 - 1);
        return train == null ? NONE : train.read(what % 100);
    }

    public int signs(int t, int what) {
        Train train = trainOf(t);
        if (train == null || what < 0 || what > 1) {
            return NONE;
        }
        int fewest = signBook.fewestFor(train.onDays);
        return what == 0 ? Integer.bitCount(fewest) : fewest;
    }

    public int table(int set) {
        if (!canBeTable(set)) {
            return NONE;
        }
        sheet.make(trains, set);
        return sheet.rowCount();
    }

    public int row(int i) {
        return sheet.hasRow(i) ? sheet.stationOf(i) : NONE;
    }

    public int column(int i) {
        return sheet.hasColumn(i) ? sheet.trainOf(i) : NONE;
    }

    public int cell(int i, int j, int what) {
        if (!sheet.hasRow(i) || !sheet.hasColumn(j) || what < 0 || what > 1) {
            return NO_CELL;
        }
        return sheet.read(i, j, what == 0);
    }

    public int breaches(int what) {
        if (!sheet.isMade() || what < 0 || what > 1) {
            return NONE;
        }
        return what == 0 ? sheet.countBreaches() : sheet.countKnots();
    }

    public int breach(int i, int j) {
        if (!sheet.hasColumn(i) || !sheet.hasColumn(j) || i >= j) {
            return NONE;
        }
        return sheet.isBreach(i, j) ? 1 : 0;
    }

    public int lanes() {
        return sheet.isMade() ? sheet.laneCount() : NONE;
    }

    public int lane(int i) {
        return sheet.hasColumn(i) ? sheet.laneOf(i) : NONE;
    }

    public int way(int from, int to, int day, int minute, int what) {
        if (!canTravel(from, to, day) || minute < 0 || minute >= MINUTES) {
            return NONE;
        }
        finder.setOut(trains, trainCount, day, changeMinutes);
        return finder.findBest(from, to, minute) ? finder.read(what) : NONE;
    }

    public int departures(int from, int to, int day) {
        if (!canTravel(from, to, day)) {
            return NONE;
        }
        finder.setOut(trains, trainCount, day, changeMinutes);
        return finder.findDepartures(from, to);
    }

    public int departure(int from, int to, int day, int k) {
        if (!canTravel(from, to, day)) {
            return NONE;
        }
        finder.setOut(trains, trainCount, day, changeMinutes);
        int count = finder.findDepartures(from, to);
        return k >= 0 && k < count ? finder.departureAt(k) : NONE;
    }

    private static boolean areDays(int days) {
        return days > 0 && days <= ALL_DAYS;
    }

    private static boolean isStation(int station) {
        return station >= 0 && station < STATIONS;
    }

    private static boolean canTravel(int from, int to, int day) {
        return isStation(from) && isStation(to) && from != to && day >= 0 && day < WEEK;
    }

    private Train trainOf(int t) {
        return t >= 0 && t < trainCount ? trains[t] : null;
    }

    private int aboutBook(int what) {
        switch (what) {
            case 0:
                return trainCount;
            case 1:
                return changeMinutes;
            case 2:
                return sheet.rowCount();
            case 3:
                return sheet.columnCount();
            default:
                return NONE;
        }
    }

    private boolean canBeTable(int set) {
        if (set <= 0 || set >= 1 << trainCount || Integer.bitCount(set) > MAX_COLUMNS) {
            return false;
        }
        for (int t = 0; t < trainCount; t++) {
            if ((set >> t & 1) != 0 && trains[t].stops < 2) {
                return false;
            }
        }
        return true;
    }

    /** A train's days and stops; its station, comes and goes hold what counts below stops alone. */
    private static final class Train {
        int onDays;
        int stops;
        final int[] station = new int[MAX_STOPS];
        final int[] comes = new int[MAX_STOPS];
        final int[] goes = new int[MAX_STOPS];
        /** The stop at each station, so that where trains meet needs no search; NONE for none. */
        final int[] stopAt = new int[STATIONS];

        Train() {
            Arrays.fill(stopAt, NONE);
        }

        boolean takes(int where, int in, int out) {
            if (stops >= MAX_STOPS || stopAt[where] != NONE) {
                return false;
            }
            if (in < 0 || out < in || out >= MINUTES) {
                return false;
            }
            return stops == 0 || in > goes[stops - 1];
        }

        void add(int where, int in, int out) {
            station[stops] = where;
            comes[stops] = in;
            goes[stops] = out;
            stopAt[where] = stops;
            stops++;
        }

        void dropLast() {
            stops--;
            stopAt[station[stops]] = NONE;
        }

        /** In long, because the minutes may be any int. */
        boolean staysInDay(int minutes) {
            if (stops == 0) {
                return true;
            }
            long first = (long) comes[0] + minutes;
            long last = (long) goes[stops - 1] + minutes;
            return first >= 0 && last < MINUTES;
        }

        void move(int minutes) {
            for (int i = 0; i < stops; i++) {
                comes[i] += minutes;
                goes[i] += minutes;
            }
        }

        boolean runsOn(int day) {
            return (onDays >> day & 1) != 0;
        }

        int read(int what) {
            if (what == 0) {
                return onDays;
            }
            if (what == 1) {
                return stops;
            }
            int i = what / 10 - 1;
            if (i < 0 || i >= stops) {
                return NONE;
            }
            switch (what % 10) {
                case 0:
                    return station[i];
                case 1:
                    return comes[i];
                case 2:
                    return goes[i];
                default:
                    return NONE;
            }
        }

        /** Nobody leaves with a train from its last stop: there its coming is what counts. */
        private int leaves(int i) {
            return i == stops - 1 ? comes[i] : goes[i];
        }

        boolean isAheadSomewhere(Train other) {
            for (int i = 0; i < stops; i++) {
                int there = other.stopAt[station[i]];
                if (there != NONE && leaves(i) < other.leaves(there)) {
                    return true;
                }
            }
            return false;
        }

        void copy(Train other) {
            onDays = other.onDays;
            stops = other.stops;
            System.arraycopy(other.station, 0, station, 0, MAX_STOPS);
            System.arraycopy(other.comes, 0, comes, 0, MAX_STOPS);
            System.arraycopy(other.goes, 0, goes, 0, MAX_STOPS);
            System.arraycopy(other.stopAt, 0, stopAt, 0, STATIONS);
        }
    }

    /** The signs that are told, beside those of the single days. */
    private static final class SignBook {
        private static final int TOLD = MAX_SIGNS - WEEK;

        private final int[] told = new int[TOLD];

        void tell(int i, int set) {
            told[i] = set;
        }

        /**
         * Only the choice of told signs is free: the days that they leave need their single signs,
         * and every other single sign would be one too many.
         */
        int fewestFor(int days) {
            int best = days;
            for (int chosen = 1; chosen < 1 << TOLD; chosen++) {
                int covered = unionOf(chosen);
                if ((covered & ~days) == 0) {
                    best = lesser(best, chosen << WEEK | days & ~covered);
                }
            }
            return best;
        }

        private int unionOf(int chosen) {
            int union = 0;
            for (int i = 0; i < TOLD; i++) {
                if ((chosen >> i & 1) != 0) {
                    union |= told[i];
                }
            }
            return union;
        }

        private static int lesser(int a, int b) {
            int more = Integer.bitCount(a) - Integer.bitCount(b);
            if (more != 0) {
                return more < 0 ? a : b;
            }
            return Math.min(a, b);
        }
    }

    /** A table; its members are the trains as they were when it was made, by their numbers. */
    private static final class Table {
        private final Train[] member = new Train[MAX_COLUMNS];
        private final int[] number = new int[MAX_COLUMNS];
        private final int[] stopRow = new int[MAX_ROWS];
        private final RowSearch rows = new RowSearch();
        private final ColumnOrder columns = new ColumnOrder();
        private final LanePlan lanePlan = new LanePlan();
        private int members;

        Table() {
            for (int m = 0; m < MAX_COLUMNS; m++) {
                member[m] = new Train();
            }
        }

        void make(Train[] trains, int set) {
            takeMembers(trains, set);
            rows.search(member, members);
            for (int m = 0; m < members; m++) {
                placeStops(m);
            }
            columns.arrange(member, members);
            planLanes();
        }

        boolean isMade() {
            return members > 0;
        }

        int rowCount() {
            return rows.length;
        }

        int columnCount() {
            return members;
        }

        boolean hasRow(int i) {
            return i >= 0 && i < rows.length;
        }

        boolean hasColumn(int j) {
            return j >= 0 && j < members;
        }

        int stationOf(int i) {
            return rows.path[i];
        }

        int trainOf(int j) {
            return number[columns.order[j]];
        }

        int read(int i, int j, boolean coming) {
            int m = columns.order[j];
            if (i < firstRow(m) || i > lastRow(m)) {
                return BLANK;
            }
            for (int s = 0; s < member[m].stops; s++) {
                if (stopRow[m * MAX_STOPS + s] == i) {
                    return coming ? member[m].comes[s] : member[m].goes[s];
                }
            }
            return PAST;
        }

        int countBreaches() {
            return columns.breachCount;
        }

        int countKnots() {
            return columns.knotCount;
        }

        boolean isBreach(int left, int right) {
            return columns.wouldBreach(columns.order[right], columns.order[left]);
        }

        int laneCount() {
            return lanePlan.count;
        }

        int laneOf(int j) {
            return lanePlan.laneOf[columns.order[j]];
        }

        private void takeMembers(Train[] trains, int set) {
            members = 0;
            for (int t = 0; t < trains.length && members < MAX_COLUMNS; t++) {
                if ((set >> t & 1) != 0) {
                    member[members].copy(trains[t]);
                    number[members] = t;
                    members++;
                }
            }
        }

        private void placeStops(int m) {
            int placed = 0;
            for (int i = 0; i < rows.length && placed < member[m].stops; i++) {
                if (rows.path[i] == member[m].station[placed]) {
                    stopRow[m * MAX_STOPS + placed] = i;
                    placed++;
                }
            }
        }

        private int firstRow(int m) {
            return stopRow[m * MAX_STOPS];
        }

        private int lastRow(int m) {
            return stopRow[m * MAX_STOPS + member[m].stops - 1];
        }

        /** Row by row, because the lanes are given by the rows at which the trains begin. */
        private void planLanes() {
            lanePlan.clear();
            for (int i = 0; i < rows.length; i++) {
                for (int m = 0; m < members; m++) {
                    if (firstRow(m) == i) {
                        lanePlan.give(m, i, lastRow(m));
                    }
                }
            }
        }
    }

    /**
     * The search for the first of the shortest rows of stations that have all members' stops in
     * their order. A state tells how many stops of each member lie behind, in three bits each. A
     * station brings on every member whose next stop it is, so a row of stations leads to just one
     * state, and the first row found with the stations tried in their order is the one wanted.
     */
    private static final class RowSearch {
        private static final int BITS = 3;
        private static final int PLACES = 1 << BITS;
        private static final int PAIRS = MAX_COLUMNS * (MAX_COLUMNS - 1) / 2;
        private static final int NEED_BITS = 6;
        private static final int NEED_MASK = (1 << NEED_BITS) - 1;
        private static final int LAST_STAMP = 1 << 24;

        int length;
        final int[] path = new int[MAX_ROWS];
        private int members;
        private int end;
        private int stamp;
        /** By member and place: the station of its next stop (NONE at its end). */
        private final int[] next = new int[MAX_COLUMNS * PLACES];
        /** By member and place: the set of the stations of all its stops to come. */
        private final int[] ahead = new int[MAX_COLUMNS * PLACES];
        /** By pair of members and their places: how many rows these two need by themselves. */
        private final int[] pairNeed = new int[PAIRS * PLACES * PLACES];
        /**
         * By state: how many rows it is known to need at least, and the stamp of the search that
         * found it, so that no search has to clear what another one left. It grows with the number
         * of members, as few tables need all of it.
         */
        private int[] known = new int[PLACES];

        void search(Train[] member, int count) {
            prepare(member, count);
            int most = 0;
            for (int m = 0; m < count; m++) {
                most += member[m].stops;
            }
            boolean found = false;
            for (int rows = needOf(0); rows <= most && !found; rows++) {
                length = rows;
                found = reach(this, 0, rows);
            }
        }

        /** Whether so many rows are enough from a state on; the rows left also bound the depth. */
        private static boolean reach(RowSearch search, int state, int left) {
            if (state == search.end) {
                return true;
            }
            if (left <= 0 || search.needOf(state) > left) {
                return false;
            }
            int stations = search.nextStations(state);
            for (int s = 0; s < STATIONS; s++) {
                if ((stations >> s & 1) != 0 && reach(search, search.passed(state, s), left - 1)) {
                    search.path[search.length - left] = s;
                    return true;
                }
            }
            search.keep(state, left + 1);
            return false;
        }

        private void prepare(Train[] member, int count) {
            members = count;
            end = 0;
            for (int m = 0; m < count; m++) {
                readStops(member[m], m);
                end |= member[m].stops << BITS * m;
            }
            int pair = 0;
            for (int a = 1; a < count; a++) {
                for (int b = 0; b < a; b++) {
                    fillPair(pair, member[a], member[b]);
                    pair++;
                }
            }
            openKnown(1 << BITS * count);
        }

        private void readStops(Train train, int m) {
            int base = m * PLACES;
            next[base + train.stops] = NONE;
            ahead[base + train.stops] = 0;
            for (int i = train.stops - 1; i >= 0; i--) {
                next[base + i] = train.station[i];
                ahead[base + i] = ahead[base + i + 1] | 1 << train.station[i];
            }
        }

        private void fillPair(int pair, Train a, Train b) {
            int base = pair * PLACES * PLACES;
            for (int i = a.stops; i >= 0; i--) {
                for (int j = b.stops; j >= 0; j--) {
                    int at = base + i * PLACES + j;
                    if (i == a.stops || j == b.stops) {
                        pairNeed[at] = a.stops - i + b.stops - j;
                    } else if (a.station[i] == b.station[j]) {
                        pairNeed[at] = 1 + pairNeed[at + PLACES + 1];
                    } else {
                        pairNeed[at] = 1 + Math.min(pairNeed[at + PLACES], pairNeed[at + 1]);
                    }
                }
            }
        }

        private void openKnown(int states) {
            if (known.length < states) {
                known = new int[states];
            }
            if (stamp >= LAST_STAMP) {
                Arrays.fill(known, 0);
                stamp = 0;
            }
            stamp++;
        }

        private int needOf(int state) {
            if (known[state] >> NEED_BITS != stamp) {
                keep(state, leastNeed(state));
            }
            return known[state] & NEED_MASK;
        }

        private void keep(int state, int need) {
            known[state] = stamp << NEED_BITS | need;
        }

        private int placeOf(int state, int m) {
            return m * PLACES + (state >> BITS * m & PLACES - 1);
        }

        /** What two members need, and each station beside theirs once: no row can do with less. */
        private int leastNeed(int state) {
            int all = 0;
            for (int m = 0; m < members; m++) {
                all |= ahead[placeOf(state, m)];
            }
            int need = Integer.bitCount(all);
            int pair = 0;
            for (int a = 1; a < members; a++) {
                int placeA = placeOf(state, a);
                for (int b = 0; b < a; b++) {
                    int placeB = placeOf(state, b);
                    int others = Integer.bitCount(all & ~(ahead[placeA] | ahead[placeB]));
                    need = Math.max(need, others + pairNeedAt(pair, placeA, placeB));
                    pair++;
                }
            }
            return need;
        }

        private int pairNeedAt(int pair, int placeA, int placeB) {
            return pairNeed[(pair * PLACES + placeA % PLACES) * PLACES + placeB % PLACES];
        }

        private int nextStations(int state) {
            int stations = 0;
            for (int m = 0; m < members; m++) {
                int station = next[placeOf(state, m)];
                if (station != NONE) {
                    stations |= 1 << station;
                }
            }
            return stations;
        }

        private int passed(int state, int station) {
            int after = state;
            for (int m = 0; m < members; m++) {
                if (next[placeOf(state, m)] == station) {
                    after += 1 << BITS * m;
                }
            }
            return after;
        }
    }

    /** The order of the columns: the first of those with the fewest breaches. */
    private static final class ColumnOrder {
        private static final int MANY = MAX_COLUMNS * MAX_COLUMNS;

        final int[] order = new int[MAX_COLUMNS];
        int breachCount;
        int knotCount;
        private int members;
        /** By member: the set of those that it would breach, if they stood left of it. */
        private final int[] breached = new int[MAX_COLUMNS];
        /** By set of members that stand left: how few breaches those behind them can have. */
        private final int[] fewest = new int[1 << MAX_COLUMNS];

        void arrange(Train[] member, int count) {
            members = count;
            knotCount = 0;
            for (int a = 0; a < count; a++) {
                breached[a] = breachedBy(member, a);
            }
            for (int a = 0; a < count; a++) {
                for (int b = 0; b < a; b++) {
                    knotCount += wouldBreach(a, b) && wouldBreach(b, a) ? 1 : 0;
                }
            }
            fillFewest();
            breachCount = fewest[0];
            setOrder();
        }

        boolean wouldBreach(int right, int left) {
            return (breached[right] >> left & 1) != 0;
        }

        private int breachedBy(Train[] member, int a) {
            int set = 0;
            for (int b = 0; b < members; b++) {
                if (b != a && member[a].isAheadSomewhere(member[b])) {
                    set |= 1 << b;
                }
            }
            return set;
        }

        private void fillFewest() {
            int all = (1 << members) - 1;
            fewest[all] = 0;
            for (int left = all - 1; left >= 0; left--) {
                int least = MANY;
                for (int m = 0; m < members; m++) {
                    if ((left >> m & 1) == 0) {
                        least = Math.min(least, fewestWith(left, m));
                    }
                }
                fewest[left] = least;
            }
        }

        private int fewestWith(int left, int m) {
            return Integer.bitCount(breached[m] & left) + fewest[left | 1 << m];
        }

        private void setOrder() {
            int left = 0;
            for (int j = 0; j < members; j++) {
                int m = firstBehind(left);
                order[j] = m;
                left |= 1 << m;
            }
        }

        private int firstBehind(int left) {
            int m = 0;
            while (m < members - 1
                    && ((left >> m & 1) != 0 || fewestWith(left, m) != fewest[left])) {
                m++;
            }
            return m;
        }
    }

    /** The lanes; members are given theirs in the order of the rows at which they begin. */
    private static final class LanePlan {
        int count;
        final int[] laneOf = new int[MAX_COLUMNS];
        private final int[] lastRow = new int[MAX_COLUMNS];

        void clear() {
            count = 0;
            Arrays.fill(lastRow, NONE);
        }

        void give(int m, int first, int last) {
            int lane = 0;
            while (lane < MAX_COLUMNS - 1 && lastRow[lane] >= first) {
                lane++;
            }
            laneOf[m] = lane;
            lastRow[lane] = last;
            count = Math.max(count, lane + 1);
        }
    }

    /**
     * The ways of one day. To board a train earlier never spoils what can be done with it after, so
     * of a train only its first possible and its last useful boarding matter.
     */
    private static final class WayFinder {
        /** Later than any train, and far from where sums wrap around. */
        private static final int NEVER = 1000000;

        private Train[] trains = new Train[0];
        private int count;
        private int weekday;
        private int wait;
        private final int[] arrives = new int[STATIONS];
        /**
         * By how many trains follow and by train: the last stop at which it may be boarded so that
         * the way still comes soonest; NONE if no stop will do.
         */
        private final int[] lastBoard = new int[MAX_TRAINS * MAX_TRAINS];
        private int soonest;
        private int legs;
        private final int[] leg = new int[MAX_TRAINS];
        private final int[] legLimit = new int[MAX_TRAINS];
        private final int[] boards = new int[MAX_TRAINS];
        private final int[] leaves = new int[MAX_TRAINS];
        private final int[] minutes = new int[MAX_TRAINS];
        private int minuteCount;
        private final int[] found = new int[MAX_TRAINS];
        private int foundCount;

        void setOut(Train[] book, int trainCount, int day, int changeMinutes) {
            trains = book;
            count = trainCount;
            weekday = day;
            wait = changeMinutes;
        }

        boolean findBest(int from, int to, int minute) {
            soonest = soonestAt(from, to, minute);
            if (soonest == NEVER) {
                return false;
            }
            countLegs(from, to, minute);
            chooseTrains(from, minute);
            chooseStations(to);
            return true;
        }

        int read(int what) {
            if (what == 0) {
                return soonest;
            }
            if (what == 1) {
                return legs;
            }
            if (what == 2) {
                return readLeg(0, 3);
            }
            int i = what / 10 - 1;
            return i >= 0 && i < legs ? readLeg(i, what % 10) : NONE;
        }

        /** From the last minute to the first: one is kept if no later one comes as soon. */
        int findDepartures(int from, int to) {
            collectMinutes(from);
            foundCount = 0;
            int best = NEVER;
            for (int i = minuteCount - 1; i >= 0; i--) {
                int comes = soonestAt(from, to, minutes[i]);
                if (comes < best) {
                    found[foundCount] = minutes[i];
                    foundCount++;
                    best = comes;
                }
            }
            return foundCount;
        }

        int departureAt(int k) {
            return found[foundCount - 1 - k];
        }

        private int readLeg(int i, int what) {
            Train train = trains[leg[i]];
            switch (what) {
                case 0:
                    return leg[i];
                case 1:
                    return train.station[boards[i]];
                case 2:
                    return train.station[leaves[i]];
                case 3:
                    return train.goes[boards[i]];
                case 4:
                    return train.comes[leaves[i]];
                default:
                    return NONE;
            }
        }

        /** A soonest way needs no train twice, so a round for each train is enough. */
        private int soonestAt(int from, int to, int minute) {
            Arrays.fill(arrives, NEVER);
            // the first train is boarded without a change
            arrives[from] = minute - wait;
            boolean sooner = true;
            for (int round = 0; round < count && sooner; round++) {
                sooner = false;
                for (int t = 0; t < count; t++) {
                    sooner |= trains[t].runsOn(weekday) && ride(trains[t]);
                }
            }
            return arrives[to];
        }

        private boolean ride(Train train) {
            boolean aboard = false;
            boolean sooner = false;
            for (int i = 0; i < train.stops; i++) {
                int station = train.station[i];
                if (aboard && train.comes[i] < arrives[station]) {
                    arrives[station] = train.comes[i];
                    sooner = true;
                }
                aboard |= arrives[station] + wait <= train.goes[i];
            }
            return sooner;
        }

        /** From the end of the way back, until a train can be boarded where it begins. */
        private void countLegs(int from, int to, int minute) {
            for (int t = 0; t < count; t++) {
                lastBoard[t] = trains[t].runsOn(weekday) ? lastBoardTo(trains[t], to) : NONE;
            }
            legs = 1;
            while (legs < count && firstTrain(from, minute) == NONE) {
                for (int t = 0; t < count; t++) {
                    lastBoard[legs * MAX_TRAINS + t] =
                            trains[t].runsOn(weekday) ? lastBoardBefore(trains[t], legs - 1) : NONE;
                }
                legs++;
            }
        }

        private int lastBoardTo(Train train, int to) {
            int last = train.stopAt[to];
            return last > 0 && train.comes[last] == soonest ? last - 1 : NONE;
        }

        private int lastBoardBefore(Train train, int following) {
            for (int i = train.stops - 1; i > 0; i--) {
                for (int t = 0; t < count; t++) {
                    if (canChange(train, i, trains[t], lastBoard[following * MAX_TRAINS + t])) {
                        return i - 1;
                    }
                }
            }
            return NONE;
        }

        /** Whether who leaves a train at its stop i can board another one there, by its limit. */
        private boolean canChange(Train train, int i, Train other, int limit) {
            int there = other.stopAt[train.station[i]];
            return there != NONE && there <= limit && other.goes[there] >= train.comes[i] + wait;
        }

        private int firstTrain(int from, int minute) {
            for (int t = 0; t < count; t++) {
                int first = trains[t].stopAt[from];
                if (first != NONE && first <= lastBoard[(legs - 1) * MAX_TRAINS + t]
                        && trains[t].goes[first] >= minute) {
                    return t;
                }
            }
            return NONE;
        }

        /** The trains are compared before the stations, so the stations are left open here. */
        private void chooseTrains(int from, int minute) {
            leg[0] = Math.max(firstTrain(from, minute), 0);
            boards[0] = trains[leg[0]].stopAt[from];
            for (int i = 1; i < legs; i++) {
                chooseTrain(i);
            }
        }

        private void chooseTrain(int i) {
            for (int t = 0; t < count; t++) {
                int limit = lastBoard[(legs - 1 - i) * MAX_TRAINS + t];
                int board = firstBoard(trains[leg[i - 1]], boards[i - 1], trains[t], limit);
                if (board != NONE) {
                    leg[i] = t;
                    boards[i] = board;
                    return;
                }
            }
        }

        private int firstBoard(Train train, int boarded, Train other, int limit) {
            int first = NONE;
            for (int i = boarded + 1; i < train.stops; i++) {
                if (canChange(train, i, other, limit)) {
                    int there = other.stopAt[train.station[i]];
                    first = first == NONE ? there : Math.min(first, there);
                }
            }
            return first;
        }

        private void chooseStations(int to) {
            int last = legs - 1;
            leaves[last] = trains[leg[last]].stopAt[to];
            legLimit[last] = leaves[last] - 1;
            for (int i = last - 1; i > 0; i--) {
                legLimit[i] = limitBefore(trains[leg[i]], trains[leg[i + 1]], legLimit[i + 1]);
            }
            for (int i = 0; i < last; i++) {
                leaves[i] = leastChange(i);
                boards[i + 1] = trains[leg[i + 1]].stopAt[trains[leg[i]].station[leaves[i]]];
            }
        }

        private int limitBefore(Train train, Train other, int limit) {
            int i = train.stops - 1;
            while (i > 0 && !canChange(train, i, other, limit)) {
                i--;
            }
            return i - 1;
        }

        private int leastChange(int i) {
            Train train = trains[leg[i]];
            int least = NONE;
            for (int s = boards[i] + 1; s < train.stops; s++) {
                if (canChange(train, s, trains[leg[i + 1]], legLimit[i + 1])
                        && (least == NONE || train.station[s] < train.station[least])) {
                    least = s;
                }
            }
            return Math.max(least, 0);
        }

        private void collectMinutes(int from) {
            minuteCount = 0;
            for (int t = 0; t < count; t++) {
                int first = trains[t].stopAt[from];
                if (first != NONE && trains[t].runsOn(weekday)) {
                    insertMinute(trains[t].goes[first]);
                }
            }
        }

        /** Alike ones may stand in twice: the second one is never sooner than the first. */
        private void insertMinute(int minute) {
            int at = minuteCount;
            while (at > 0 && minutes[at - 1] > minute) {
                minutes[at] = minutes[at - 1];
                at--;
            }
            minutes[at] = minute;
            minuteCount++;
        }
    }
}

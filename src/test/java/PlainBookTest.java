import java.util.ArrayList;
import java.util.Arrays;
import java.util.List;
import java.util.Random;
import java.util.TreeMap;

/**
 * Runs TrainBook beside a plain book that does what the document says by trying everything: all
 * sets of signs, all rows of stations, all orders of columns, all ways. The runs are the same each
 * time, because the seeds are.
 */
public final class PlainBookTest {
    private static int wrong = 0;

    public static void main(String[] args) {
        for (int seed = 0; seed < 25; seed++) {
            mixedRun(seed);
        }
        for (int seed = 0; seed < 400; seed++) {
            signRun(seed);
        }
        for (int seed = 0; seed < 250; seed++) {
            tableRun(seed, 6, 2 + seed % 4, 4 + seed % 9);
        }
        for (int seed = 0; seed < 6; seed++) {
            tableRun(1000 + seed, 6, 7, 7 + seed % 6);
        }
        for (int seed = 0; seed < 300; seed++) {
            wayRun(seed);
        }
        for (int seed = 0; seed < 400; seed++) {
            tieRun(seed);
        }
        for (int legs = 1; legs <= 10; legs++) {
            longWayRun(legs);
        }
        System.out.println(wrong == 0 ? "all answers are as due" : wrong + " answers are not as due");
        if (wrong != 0) {
            System.exit(1);
        }
    }

    private static void due(int seed, String call, long got, long want) {
        if (got != want) {
            wrong++;
            if (wrong < 50) {
                System.out.println("seed " + seed + ": " + call + " answered " + got + ", due is " + want);
            }
        }
    }

    // ---- the runs

    /** All calls, with arguments that can be and some that can't. */
    private static void mixedRun(int seed) {
        Random random = new Random(seed);
        TrainBook x = new TrainBook();
        Plain y = new Plain();
        for (int call = 0; call < 120; call++) {
            int t = random.nextInt(13) - 1;
            switch (random.nextInt(12)) {
                case 0: case 1: {
                    int days = random.nextInt(132) - 2;
                    due(seed, "train(" + days + ")", x.train(days), y.train(days));
                    break;
                }
                case 2: case 3: case 4: case 5: case 6: {
                    int s = random.nextInt(14) - 1;
                    int last = y.lastGoes(t);
                    int comes = last + random.nextInt(60) - 5;
                    int goes = comes + random.nextInt(20) - 3;
                    due(seed, "stop(" + t + ", " + s + ", " + comes + ", " + goes + ")",
                            x.stop(t, s, comes, goes), y.stop(t, s, comes, goes));
                    break;
                }
                case 7: {
                    int days = random.nextInt(132) - 2;
                    due(seed, "days(" + t + ", " + days + ")", bit(x.days(t, days)), bit(y.days(t, days)));
                    break;
                }
                case 8:
                    if (random.nextInt(3) == 0) {
                        due(seed, "cut(" + t + ")", bit(x.cut(t)), bit(y.cut(t)));
                    }
                    break;
                case 9: {
                    int m = random.nextInt(5) == 0 ? random.nextInt(4000) - 2000 : random.nextInt(200) - 100;
                    due(seed, "shift(" + t + ", " + m + ")", bit(x.shift(t, m)), bit(y.shift(t, m)));
                    break;
                }
                case 10: {
                    int m = random.nextInt(66) - 3;
                    due(seed, "change(" + m + ")", bit(x.change(m)), bit(y.change(m)));
                    int i = random.nextInt(16) - 1;
                    int set = random.nextInt(132) - 2;
                    due(seed, "sign(" + i + ", " + set + ")", bit(x.sign(i, set)), bit(y.sign(i, set)));
                    break;
                }
                default: {
                    int set = random.nextInt(8) == 0 ? random.nextInt(2050) - 2 : y.someSet(random);
                    due(seed, "table(" + set + ")", x.table(set), y.table(set));
                    compareTables(seed, x, y);
                    break;
                }
            }
            if (call % 10 == 9) {
                compareBooks(seed, x, y);
                compareTables(seed, x, y);
            }
        }
        compareWays(seed, x, y, random);
    }

    private static void signRun(int seed) {
        Random random = new Random(seed);
        TrainBook x = new TrainBook();
        Plain y = new Plain();
        int days = 1 + random.nextInt(127);
        due(seed, "train", x.train(days), y.train(days));
        for (int round = 0; round < 4; round++) {
            for (int i = 7; i <= 12; i++) {
                int set = random.nextInt(128) & (random.nextInt(4) == 0 ? 127 : days);
                due(seed, "sign(" + i + ", " + set + ")", bit(x.sign(i, set)), bit(y.sign(i, set)));
            }
            due(seed, "signs(0, 0)", x.signs(0, 0), y.signs(0, 0));
            due(seed, "signs(0, 1)", x.signs(0, 1), y.signs(0, 1));
        }
    }

    private static void tableRun(int seed, int trains, int stops, int stations) {
        Random random = new Random(seed);
        TrainBook x = new TrainBook();
        Plain y = new Plain();
        for (int t = 0; t < trains; t++) {
            addTrain(x, y, random, 127, stops, Math.min(stations, 12), 40);
        }
        int all = (1 << trains) - 1;
        due(seed, "table(all)", x.table(all), y.table(all));
        compareTables(seed, x, y);
        int some = 1 + random.nextInt(all);
        due(seed, "table(" + some + ")", x.table(some), y.table(some));
        compareTables(seed, x, y);
    }

    private static void wayRun(int seed) {
        Random random = new Random(seed);
        TrainBook x = new TrainBook();
        Plain y = new Plain();
        int trains = 2 + random.nextInt(9);
        int stations = 4 + random.nextInt(4);
        for (int t = 0; t < trains; t++) {
            addTrain(x, y, random, random.nextInt(4) == 0 ? 2 : 3, trains > 7 ? 3 : 5, stations, 10);
        }
        int change = random.nextInt(6);
        due(seed, "change", bit(x.change(change)), bit(y.change(change)));
        compareWays(seed, x, y, random);
    }

    /** Long stays at few stations and many trains that come at once, so that many ways are alike. */
    private static void tieRun(int seed) {
        Random random = new Random(seed);
        TrainBook x = new TrainBook();
        Plain y = new Plain();
        int trains = 4 + random.nextInt(5);
        for (int t = 0; t < trains; t++) {
            y.train(1);
            x.train(1);
            int minute = 10 * random.nextInt(20);
            int count = 2 + random.nextInt(3);
            for (int i = 0; i < count; i++) {
                int s = random.nextInt(5);
                int goes = minute + 10 * random.nextInt(6);
                x.stop(t, s, minute, goes);
                y.stop(t, s, minute, goes);
                minute = goes + 10;
            }
            if (random.nextBoolean()) {
                x.stop(t, 5, 800, 800);
                y.stop(t, 5, 800, 800);
            }
        }
        int change = 10 * random.nextInt(4);
        due(seed, "change", bit(x.change(change)), bit(y.change(change)));
        for (int from = 0; from < 5; from++) {
            for (int to = 0; to < 6; to++) {
                List<Way> ways = y.allWays(from, to, 0);
                for (int minute = 0; minute < 300; minute += 10) {
                    compareWay(seed, x, y, ways, new int[] {from, to, 0, minute});
                }
            }
        }
    }

    /** A chain of trains, the last one first, so that a way of so many trains is the only one. */
    private static void longWayRun(int legs) {
        TrainBook x = new TrainBook();
        Plain y = new Plain();
        for (int t = 0; t < legs; t++) {
            int from = legs - 1 - t;
            x.train(1);
            y.train(1);
            x.stop(t, from, from * 20, from * 20 + 3);
            y.stop(t, from, from * 20, from * 20 + 3);
            x.stop(t, from + 1, from * 20 + 18, from * 20 + 19);
            y.stop(t, from + 1, from * 20 + 18, from * 20 + 19);
        }
        due(legs, "way(.., 1)", x.way(0, legs, 0, 0, 1), legs);
        compareWays(legs, x, y, new Random(legs));
    }

    private static void addTrain(TrainBook x, Plain y, Random random, int days, int stops, int stations, int gap) {
        int t = y.train(days);
        x.train(days);
        int minute = random.nextInt(30);
        int count = Math.min(stations, Math.max(2, stops - random.nextInt(stops == 7 ? 1 : 2)));
        for (int i = 0; i < count; i++) {
            int s = random.nextInt(stations);
            while (y.stopsAt(t, s)) {
                s = (s + 1) % stations;
            }
            int goes = minute + random.nextInt(3) * random.nextInt(4);
            x.stop(t, s, minute, goes);
            y.stop(t, s, minute, goes);
            minute = goes + 1 + random.nextInt(gap);
        }
    }

    // ---- the comparisons

    private static void compareBooks(int seed, TrainBook x, Plain y) {
        for (int what = -3; what < 1210; what++) {
            due(seed, "about(" + what + ")", x.about(what), y.about(what));
        }
        for (int t = -1; t <= 10; t++) {
            for (int what = -1; what <= 2; what++) {
                due(seed, "signs(" + t + ", " + what + ")", x.signs(t, what), y.signs(t, what));
            }
        }
    }

    private static void compareTables(int seed, TrainBook x, Plain y) {
        due(seed, "about(2)", x.about(2), y.about(2));
        due(seed, "about(3)", x.about(3), y.about(3));
        for (int i = -1; i <= 43; i++) {
            due(seed, "row(" + i + ")", x.row(i), y.row(i));
            for (int j = -1; j <= 6; j++) {
                for (int what = -1; what <= 2; what++) {
                    due(seed, "cell(" + i + ", " + j + ", " + what + ")", x.cell(i, j, what), y.cell(i, j, what));
                }
            }
        }
        for (int i = -1; i <= 6; i++) {
            due(seed, "column(" + i + ")", x.column(i), y.column(i));
            due(seed, "lane(" + i + ")", x.lane(i), y.lane(i));
            for (int j = -1; j <= 6; j++) {
                due(seed, "breach(" + i + ", " + j + ")", x.breach(i, j), y.breach(i, j));
            }
        }
        for (int what = -1; what <= 2; what++) {
            due(seed, "breaches(" + what + ")", x.breaches(what), y.breaches(what));
        }
        due(seed, "lanes()", x.lanes(), y.lanes());
    }

    private static void compareWays(int seed, TrainBook x, Plain y, Random random) {
        int[] minutes = {-1, 0, 1 + random.nextInt(20), 5 + random.nextInt(60), random.nextInt(400), 1439, 1440};
        for (int day = -1; day <= 7; day++) {
            for (int from = -1; from <= 12; from++) {
                for (int to = -1; to <= 12; to++) {
                    List<Way> ways = y.allWays(from, to, day);
                    String name = "(" + from + ", " + to + ", " + day;
                    List<Integer> departures = y.departures(ways);
                    int count = ways == null ? -1 : departures.size();
                    due(seed, "departures" + name + ")", x.departures(from, to, day), count);
                    for (int k = -1; k <= count; k++) {
                        int want = k >= 0 && k < count ? departures.get(k) : -1;
                        due(seed, "departure" + name + ", " + k + ")", x.departure(from, to, day, k), want);
                    }
                    for (int minute : minutes) {
                        compareWay(seed, x, y, ways, new int[] {from, to, day, minute});
                    }
                }
            }
        }
    }

    private static void compareWay(int seed, TrainBook x, Plain y, List<Way> ways, int[] a) {
        Way best = a[3] < 0 || a[3] > 1439 ? null : y.best(ways, a[3]);
        int legs = best == null ? 0 : best.legs();
        for (int what = -1; what < 10 * legs + 22; what++) {
            int got = x.way(a[0], a[1], a[2], a[3], what);
            int want = y.read(best, what);
            if (got != want) {
                due(seed, "way(" + a[0] + ", " + a[1] + ", " + a[2] + ", " + a[3] + ", " + what + ")", got, want);
            }
        }
    }

    private static int bit(boolean b) {
        return b ? 1 : 0;
    }

    // ---- the plain book

    private static final class PlainTrain {
        int days;
        List<int[]> stops = new ArrayList<>();

        PlainTrain copy() {
            PlainTrain c = new PlainTrain();
            c.days = days;
            for (int[] s : stops) {
                c.stops.add(s.clone());
            }
            return c;
        }

        int at(int station) {
            for (int i = 0; i < stops.size(); i++) {
                if (stops.get(i)[0] == station) {
                    return i;
                }
            }
            return -1;
        }

        int timeAt(int i) {
            return i == stops.size() - 1 ? stops.get(i)[1] : stops.get(i)[2];
        }
    }

    /** A way: for each of its trains {train, boarded at, left at, goes, comes}. */
    private static final class Way {
        final List<int[]> parts;

        Way(List<int[]> parts) {
            this.parts = new ArrayList<>(parts);
        }

        int legs() {
            return parts.size();
        }

        int goes() {
            return parts.get(0)[3];
        }

        int comes() {
            return parts.get(parts.size() - 1)[4];
        }

        boolean isBefore(Way other) {
            if (comes() != other.comes()) {
                return comes() < other.comes();
            }
            if (legs() != other.legs()) {
                return legs() < other.legs();
            }
            for (int i = 0; i < legs(); i++) {
                if (parts.get(i)[0] != other.parts.get(i)[0]) {
                    return parts.get(i)[0] < other.parts.get(i)[0];
                }
            }
            for (int i = 0; i < legs(); i++) {
                if (parts.get(i)[2] != other.parts.get(i)[2]) {
                    return parts.get(i)[2] < other.parts.get(i)[2];
                }
            }
            return false;
        }
    }

    private static final class Plain {
        final List<PlainTrain> trains = new ArrayList<>();
        final int[] signs = {1, 2, 4, 8, 16, 32, 64, 0, 0, 0, 0, 0, 0};
        int change = 5;
        int[] rows;
        List<Integer> order;
        TreeMap<Integer, PlainTrain> members;
        TreeMap<Integer, List<Integer>> stopRows;
        TreeMap<Integer, Integer> laneOf;

        PlainTrain get(int t) {
            return t >= 0 && t < trains.size() ? trains.get(t) : null;
        }

        int train(int days) {
            if (days < 1 || days > 127 || trains.size() == 10) {
                return -1;
            }
            PlainTrain train = new PlainTrain();
            train.days = days;
            trains.add(train);
            return trains.size() - 1;
        }

        int lastGoes(int t) {
            PlainTrain train = get(t);
            return train == null || train.stops.isEmpty() ? 0 : train.stops.get(train.stops.size() - 1)[2];
        }

        boolean stopsAt(int t, int s) {
            return get(t).at(s) >= 0;
        }

        int stop(int t, int s, int comes, int goes) {
            PlainTrain train = get(t);
            if (train == null || s < 0 || s > 11 || train.at(s) >= 0 || train.stops.size() == 7) {
                return -1;
            }
            if (comes < 0 || comes > 1439 || goes < 0 || goes > 1439 || goes < comes) {
                return -1;
            }
            if (!train.stops.isEmpty() && comes <= lastGoes(t)) {
                return -1;
            }
            train.stops.add(new int[] {s, comes, goes});
            return train.stops.size();
        }

        boolean days(int t, int days) {
            if (get(t) == null || days < 1 || days > 127) {
                return false;
            }
            get(t).days = days;
            return true;
        }

        boolean cut(int t) {
            if (get(t) == null || get(t).stops.isEmpty()) {
                return false;
            }
            get(t).stops.remove(get(t).stops.size() - 1);
            return true;
        }

        boolean shift(int t, int minutes) {
            if (get(t) == null) {
                return false;
            }
            for (int[] s : get(t).stops) {
                if (s[1] + minutes < 0 || s[2] + minutes > 1439) {
                    return false;
                }
            }
            for (int[] s : get(t).stops) {
                s[1] += minutes;
                s[2] += minutes;
            }
            return true;
        }

        boolean sign(int i, int set) {
            if (i < 7 || i > 12 || set < 0 || set > 127) {
                return false;
            }
            signs[i] = set;
            return true;
        }

        boolean change(int minutes) {
            if (minutes < 0 || minutes > 60) {
                return false;
            }
            change = minutes;
            return true;
        }

        int about(int what) {
            if (what == 0) {
                return trains.size();
            }
            if (what == 1) {
                return change;
            }
            if (what == 2) {
                return rows == null ? 0 : rows.length;
            }
            if (what == 3) {
                return rows == null ? 0 : order.size();
            }
            for (int t = 0; t < trains.size(); t++) {
                if (what == 100 * t + 100) {
                    return get(t).days;
                }
                if (what == 100 * t + 101) {
                    return get(t).stops.size();
                }
                for (int i = 0; i < get(t).stops.size(); i++) {
                    for (int k = 0; k < 3; k++) {
                        if (what == 100 * t + 110 + 10 * i + k) {
                            return get(t).stops.get(i)[k];
                        }
                    }
                }
            }
            return -1;
        }

        int signs(int t, int what) {
            if (get(t) == null || what < 0 || what > 1) {
                return -1;
            }
            int best = -1;
            for (int set = 0; set < 8192; set++) {
                int union = 0;
                for (int i = 0; i < 13; i++) {
                    union |= (set >> i & 1) == 1 ? signs[i] : 0;
                }
                if (union == get(t).days && (best < 0 || Integer.bitCount(set) < Integer.bitCount(best))) {
                    best = set;
                }
            }
            return what == 0 ? Integer.bitCount(best) : best;
        }

        int someSet(Random random) {
            int set = 0;
            for (int t = 0; t < trains.size(); t++) {
                if (get(t).stops.size() >= 2 && Integer.bitCount(set) < 6 && random.nextInt(3) > 0) {
                    set |= 1 << t;
                }
            }
            return set;
        }

        int table(int set) {
            TreeMap<Integer, PlainTrain> chosen = new TreeMap<>();
            for (int t = 0; t < 31; t++) {
                if ((set >> t & 1) == 1) {
                    if (get(t) == null || get(t).stops.size() < 2) {
                        return -1;
                    }
                    chosen.put(t, get(t).copy());
                }
            }
            if (set < 0 || chosen.isEmpty() || chosen.size() > 6) {
                return -1;
            }
            members = chosen;
            rows = shortestRows(new ArrayList<>(chosen.values()));
            order = null;
            permute(new ArrayList<>(), new ArrayList<>(chosen.keySet()));
            stopRows = new TreeMap<>();
            for (int t : members.keySet()) {
                List<Integer> at = new ArrayList<>();
                int row = -1;
                for (int[] s : members.get(t).stops) {
                    row++;
                    while (rows[row] != s[0]) {
                        row++;
                    }
                    at.add(row);
                }
                stopRows.put(t, at);
            }
            setLanes();
            return rows.length;
        }

        /** Layer by layer; of each state the first row of stations that leads there. */
        int[] shortestRows(List<PlainTrain> list) {
            TreeMap<String, String> layer = new TreeMap<>();
            char[] start = new char[list.size()];
            Arrays.fill(start, '0');
            layer.put(new String(start), "");
            while (true) {
                TreeMap<String, String> next = new TreeMap<>();
                for (String state : layer.keySet()) {
                    boolean done = true;
                    for (int i = 0; i < list.size(); i++) {
                        done &= state.charAt(i) - '0' == list.get(i).stops.size();
                    }
                    if (done) {
                        String path = layer.get(state);
                        int[] result = new int[path.length()];
                        for (int i = 0; i < result.length; i++) {
                            result[i] = path.charAt(i) - 'a';
                        }
                        return result;
                    }
                    for (int s = 0; s < 12; s++) {
                        char[] after = state.toCharArray();
                        for (int i = 0; i < after.length; i++) {
                            int p = after[i] - '0';
                            if (p < list.get(i).stops.size() && list.get(i).stops.get(p)[0] == s) {
                                after[i]++;
                            }
                        }
                        String key = new String(after);
                        if (key.equals(state)) {
                            continue;
                        }
                        String path = layer.get(state) + (char) ('a' + s);
                        if (!next.containsKey(key) || path.compareTo(next.get(key)) < 0) {
                            next.put(key, path);
                        }
                    }
                }
                layer = next;
            }
        }

        /** In the order of the numbers, so the first of the fewest breaches is kept. */
        void permute(List<Integer> done, List<Integer> rest) {
            if (rest.isEmpty()) {
                if (order == null || countBreaches(done) < countBreaches(order)) {
                    order = new ArrayList<>(done);
                }
                return;
            }
            for (int k = 0; k < rest.size(); k++) {
                List<Integer> more = new ArrayList<>(done);
                List<Integer> fewer = new ArrayList<>(rest);
                more.add(fewer.remove(k));
                permute(more, fewer);
            }
        }

        int countBreaches(List<Integer> list) {
            int count = 0;
            for (int i = 0; i < list.size(); i++) {
                for (int j = i + 1; j < list.size(); j++) {
                    count += breaches(list.get(j), list.get(i)) ? 1 : 0;
                }
            }
            return count;
        }

        boolean breaches(int right, int left) {
            PlainTrain a = members.get(right);
            PlainTrain b = members.get(left);
            for (int s = 0; s < 12; s++) {
                if (a.at(s) >= 0 && b.at(s) >= 0 && a.timeAt(a.at(s)) < b.timeAt(b.at(s))) {
                    return true;
                }
            }
            return false;
        }

        int first(int t) {
            return stopRows.get(t).get(0);
        }

        int last(int t) {
            return stopRows.get(t).get(stopRows.get(t).size() - 1);
        }

        void setLanes() {
            laneOf = new TreeMap<>();
            List<Integer> list = new ArrayList<>(members.keySet());
            list.sort((a, b) -> first(a) != first(b) ? Integer.compare(first(a), first(b)) : Integer.compare(a, b));
            for (int t : list) {
                int lane = 0;
                while (!isFree(lane, t)) {
                    lane++;
                }
                laneOf.put(t, lane);
            }
        }

        boolean isFree(int lane, int t) {
            for (int other : laneOf.keySet()) {
                if (laneOf.get(other) == lane && first(other) <= last(t) && first(t) <= last(other)) {
                    return false;
                }
            }
            return true;
        }

        int row(int i) {
            return rows != null && i >= 0 && i < rows.length ? rows[i] : -1;
        }

        boolean hasColumn(int i) {
            return rows != null && i >= 0 && i < order.size();
        }

        int column(int i) {
            return hasColumn(i) ? order.get(i) : -1;
        }

        int cell(int i, int j, int what) {
            if (row(i) == -1 || !hasColumn(j) || what < 0 || what > 1) {
                return -3;
            }
            int t = order.get(j);
            int stop = stopRows.get(t).indexOf(i);
            if (stop >= 0) {
                return members.get(t).stops.get(stop)[what + 1];
            }
            return first(t) < i && i < last(t) ? -2 : -1;
        }

        int breaches(int what) {
            if (rows == null || what < 0 || what > 1) {
                return -1;
            }
            if (what == 0) {
                return countBreaches(order);
            }
            int knots = 0;
            for (int a : order) {
                for (int b : order) {
                    knots += a < b && breaches(a, b) && breaches(b, a) ? 1 : 0;
                }
            }
            return knots;
        }

        int breach(int i, int j) {
            if (!hasColumn(i) || !hasColumn(j) || i >= j) {
                return -1;
            }
            return breaches(order.get(j), order.get(i)) ? 1 : 0;
        }

        int lanes() {
            int most = -1;
            if (rows != null) {
                for (int lane : laneOf.values()) {
                    most = Math.max(most, lane + 1);
                }
            }
            return most;
        }

        int lane(int i) {
            return hasColumn(i) ? laneOf.get(order.get(i)) : -1;
        }

        /** Every way in which no train comes twice (one with a train twice is never best). */
        List<Way> allWays(int from, int to, int day) {
            if (from < 0 || from > 11 || to < 0 || to > 11 || from == to || day < 0 || day > 6) {
                return null;
            }
            List<Way> ways = new ArrayList<>();
            extend(ways, new ArrayList<>(), from, to, day, -1);
            return ways;
        }

        void extend(List<Way> ways, List<int[]> parts, int at, int to, int day, int earliest) {
            for (int t = 0; t < trains.size(); t++) {
                PlainTrain train = get(t);
                int board = train.at(at);
                if ((train.days >> day & 1) == 0 || board < 0 || train.stops.get(board)[2] < earliest) {
                    continue;
                }
                if (uses(parts, t)) {
                    continue;
                }
                for (int leave = board + 1; leave < train.stops.size(); leave++) {
                    int[] stop = train.stops.get(leave);
                    parts.add(new int[] {t, at, stop[0], train.stops.get(board)[2], stop[1]});
                    if (stop[0] == to) {
                        ways.add(new Way(parts));
                    } else {
                        extend(ways, parts, stop[0], to, day, stop[1] + change);
                    }
                    parts.remove(parts.size() - 1);
                }
            }
        }

        boolean uses(List<int[]> parts, int t) {
            for (int[] part : parts) {
                if (part[0] == t) {
                    return true;
                }
            }
            return false;
        }

        Way best(List<Way> ways, int minute) {
            Way best = null;
            if (ways != null) {
                for (Way way : ways) {
                    if (way.goes() >= minute && (best == null || way.isBefore(best))) {
                        best = way;
                    }
                }
            }
            return best;
        }

        int read(Way way, int what) {
            if (way == null) {
                return -1;
            }
            if (what == 0) {
                return way.comes();
            }
            if (what == 1) {
                return way.legs();
            }
            if (what == 2) {
                return way.goes();
            }
            for (int i = 0; i < way.legs(); i++) {
                for (int k = 0; k < 5; k++) {
                    if (what == 10 * i + 10 + k) {
                        return way.parts.get(i)[k];
                    }
                }
            }
            return -1;
        }

        /** Minute by minute, in the words of the document. */
        List<Integer> departures(List<Way> ways) {
            List<Integer> minutes = new ArrayList<>();
            if (ways == null || ways.isEmpty()) {
                return minutes;
            }
            boolean[] goes = new boolean[1440];
            for (Way way : ways) {
                goes[way.goes()] = true;
            }
            for (int minute = 0; minute < 1440; minute++) {
                if (!goes[minute]) {
                    continue;
                }
                Way best = best(ways, minute);
                Way later = best(ways, minute + 1);
                if (best.goes() == minute && (later == null || later.comes() > best.comes())) {
                    minutes.add(minute);
                }
            }
            return minutes;
        }
    }
}

/** Each promise of the document by itself: ordinary inputs, the edges it names, wrong inputs. */
public final class PromiseTest {
    private static final int LEAST = Integer.MIN_VALUE;
    private static final int MOST = Integer.MAX_VALUE;
    private static int wrong = 0;
    private static int promise = 0;

    public static void main(String[] args) {
        aNewObject();
        train();
        stop();
        stopLeavesTheTable();
        days();
        cut();
        shift();
        sign();
        change();
        about();
        signs();
        table();
        tableStays();
        row();
        column();
        cell();
        breaches();
        breachAtLastStops();
        breach();
        lanes();
        lane();
        way();
        wayOfFewestTrains();
        wayOfLeastTrains();
        wayOfLeastStations();
        wayAndChange();
        wayOfDays();
        departures();
        departure();
        System.out.println(wrong == 0 ? "all answers are as due" : wrong + " answers are not as due");
        if (wrong != 0) {
            System.exit(1);
        }
    }

    private static void due(String call, long got, long want) {
        if (got != want) {
            wrong++;
            System.out.println("promise " + promise + ": " + call + " answered " + got + ", due is " + want);
        }
    }

    private static void due(String call, boolean got, boolean want) {
        due(call, got ? 1 : 0, want ? 1 : 0);
    }

    /** A train with stops told as station, comes, goes in turn; its number. */
    private static int add(TrainBook x, int days, int... stops) {
        int t = x.train(days);
        for (int i = 0; i < stops.length; i += 3) {
            due("stop(" + t + ", " + stops[i] + ", ..)", x.stop(t, stops[i], stops[i + 1], stops[i + 2]), i / 3 + 1);
        }
        return t;
    }

    private static void dueRows(TrainBook x, int... stations) {
        due("about(2)", x.about(2), stations.length);
        for (int i = 0; i < stations.length; i++) {
            due("row(" + i + ")", x.row(i), stations[i]);
        }
        due("row(" + stations.length + ")", x.row(stations.length), -1);
    }

    private static void dueColumns(TrainBook x, int... trains) {
        due("about(3)", x.about(3), trains.length);
        for (int i = 0; i < trains.length; i++) {
            due("column(" + i + ")", x.column(i), trains[i]);
        }
        due("column(" + trains.length + ")", x.column(trains.length), -1);
    }

    private static void aNewObject() {
        promise = 1;
        TrainBook x = new TrainBook();
        due("NONE", TrainBook.NONE, -1);
        due("about(0)", x.about(0), 0);
        due("about(1)", x.about(1), 5);
        due("about(2)", x.about(2), 0);
        due("about(3)", x.about(3), 0);
        due("about(100)", x.about(100), -1);
        due("row(0)", x.row(0), -1);
        due("column(0)", x.column(0), -1);
        due("cell(0, 0, 0)", x.cell(0, 0, 0), -3);
        due("breaches(0)", x.breaches(0), -1);
        due("breaches(1)", x.breaches(1), -1);
        due("breach(0, 1)", x.breach(0, 1), -1);
        due("lanes()", x.lanes(), -1);
        due("lane(0)", x.lane(0), -1);
        due("table(1)", x.table(1), -1);
        due("way", x.way(0, 1, 0, 0, 0), -1);
        due("departures", x.departures(0, 1, 0), 0);
        add(x, 1, 0, 1, 1, 1, 2, 2);
        due("another object's about(0)", new TrainBook().about(0), 0);
    }

    private static void train() {
        promise = 2;
        TrainBook x = new TrainBook();
        int[] cannot = {0, -1, 128, 255, LEAST, MOST};
        for (int days : cannot) {
            due("train(" + days + ")", x.train(days), -1);
        }
        due("about(0)", x.about(0), 0);
        for (int t = 0; t < 10; t++) {
            int days = t == 9 ? 127 : t + 1;
            due("train(" + days + ")", x.train(days), t);
            due("its days", x.about(100 * t + 100), days);
            due("its stops", x.about(100 * t + 101), 0);
            due("about(0)", x.about(0), t + 1);
        }
        due("the eleventh train", x.train(1), -1);
        due("about(0)", x.about(0), 10);
        due("about(1100)", x.about(1100), -1);
    }

    private static void stop() {
        promise = 3;
        TrainBook x = new TrainBook();
        due("stop without a train", x.stop(0, 0, 0, 0), -1);
        x.train(1);
        x.train(1);
        int[][] cannot = {
            {-1, 0, 5, 6}, {2, 0, 5, 6}, {LEAST, 0, 5, 6}, {MOST, 0, 5, 6},
            {0, -1, 5, 6}, {0, 12, 5, 6}, {0, LEAST, 5, 6}, {0, MOST, 5, 6},
            {0, 0, -1, 6}, {0, 0, 6, 5}, {0, 0, 5, 1440}, {0, 0, 1440, 1440}, {0, 0, LEAST, 5},
            {0, 0, 5, MOST}, {0, 0, MOST, MOST}, {0, 0, LEAST, LEAST}, {0, 0, -2, -1},
        };
        for (int[] c : cannot) {
            due("stop(" + c[0] + ", " + c[1] + ", " + c[2] + ", " + c[3] + ")", x.stop(c[0], c[1], c[2], c[3]), -1);
        }
        due("about(101)", x.about(101), 0);
        due("stop(0, 11, 0, 0)", x.stop(0, 11, 0, 0), 1);
        due("the same station", x.stop(0, 11, 5, 6), -1);
        due("comes when it goes", x.stop(0, 3, 0, 6), -1);
        due("comes a minute later", x.stop(0, 3, 1, 6), 2);
        due("comes before it goes", x.stop(0, 4, 5, 9), -1);
        due("comes when it goes", x.stop(0, 4, 6, 9), -1);
        due("the third", x.stop(0, 4, 7, 7), 3);
        due("the fourth", x.stop(0, 0, 8, 8), 4);
        due("the fifth", x.stop(0, 1, 9, 9), 5);
        due("the sixth", x.stop(0, 2, 10, 10), 6);
        due("the seventh", x.stop(0, 5, 1439, 1439), 7);
        x.cut(0);
        due("the seventh", x.stop(0, 5, 11, 11), 7);
        due("the eighth", x.stop(0, 6, 12, 12), -1);
        due("about(101)", x.about(101), 7);
        due("about(170)", x.about(170), 5);
        due("about(171)", x.about(171), 11);
        due("about(121)", x.about(121), 1);
        due("about(122)", x.about(122), 6);
        due("another train's stops", x.about(201), 0);
        due("another train at the same station", x.stop(1, 11, 0, 1439), 1);
    }

    private static void stopLeavesTheTable() {
        TrainBook x = new TrainBook();
        add(x, 1, 4, 10, 11, 5, 20, 21);
        due("table(1)", x.table(1), 2);
        due("stop(0, 6, 30, 31)", x.stop(0, 6, 30, 31), 3);
        dueRows(x, 4, 5);
        due("table(1)", x.table(1), 3);
        dueRows(x, 4, 5, 6);
    }

    private static void days() {
        promise = 4;
        TrainBook x = new TrainBook();
        due("days without a train", x.days(0, 1), false);
        x.train(3);
        x.train(5);
        due("days(0, 127)", x.days(0, 127), true);
        due("about(100)", x.about(100), 127);
        due("about(200)", x.about(200), 5);
        int[] cannot = {0, -1, 128, LEAST, MOST};
        for (int days : cannot) {
            due("days(0, " + days + ")", x.days(0, days), false);
        }
        due("about(100)", x.about(100), 127);
        due("days(1, 1)", x.days(1, 1), true);
        due("about(200)", x.about(200), 1);
        due("days(2, 1)", x.days(2, 1), false);
        due("days(-1, 1)", x.days(-1, 1), false);
        due("days(MOST, 1)", x.days(MOST, 1), false);
    }

    private static void cut() {
        promise = 5;
        TrainBook x = new TrainBook();
        due("cut without a train", x.cut(0), false);
        add(x, 1, 4, 10, 12, 5, 20, 25, 6, 30, 30);
        due("cut(0)", x.cut(0), true);
        due("about(101)", x.about(101), 2);
        due("about(130)", x.about(130), -1);
        due("about(120)", x.about(120), 5);
        due("the way to it is gone", x.way(4, 6, 0, 0, 0), -1);
        due("the station again", x.stop(0, 6, 26, 27), 3);
        due("cut(0)", x.cut(0), true);
        due("cut(0)", x.cut(0), true);
        due("cut(0)", x.cut(0), true);
        due("cut(0)", x.cut(0), false);
        due("about(101)", x.about(101), 0);
        due("anything may come", x.stop(0, 4, 0, 0), 1);
        due("cut(1)", x.cut(1), false);
        due("cut(-1)", x.cut(-1), false);
        due("cut(LEAST)", x.cut(LEAST), false);
        due("about(101)", x.about(101), 1);
    }

    private static void shift() {
        promise = 6;
        TrainBook x = new TrainBook();
        due("shift without a train", x.shift(0, 0), false);
        add(x, 1, 4, 10, 12, 5, 20, 1400);
        add(x, 1, 4, 10, 12);
        x.train(1);
        due("shift(0, -11)", x.shift(0, -11), false);
        due("shift(0, 40)", x.shift(0, 40), false);
        due("shift(0, LEAST)", x.shift(0, LEAST), false);
        due("shift(0, MOST)", x.shift(0, MOST), false);
        due("about(111)", x.about(111), 10);
        due("about(122)", x.about(122), 1400);
        due("shift(0, 39)", x.shift(0, 39), true);
        due("about(111)", x.about(111), 49);
        due("about(112)", x.about(112), 51);
        due("about(121)", x.about(121), 59);
        due("about(122)", x.about(122), 1439);
        due("about(120)", x.about(120), 5);
        due("shift(0, 1)", x.shift(0, 1), false);
        due("shift(0, 0)", x.shift(0, 0), true);
        due("shift(0, -49)", x.shift(0, -49), true);
        due("about(111)", x.about(111), 0);
        due("about(122)", x.about(122), 1390);
        due("shift(0, -1)", x.shift(0, -1), false);
        due("another train", x.about(211), 10);
        due("no stop is beyond", x.shift(2, 5000), true);
        due("no such train", x.shift(3, 0), false);
        due("no such train", x.shift(-1, 0), false);
        due("comes behind the later minute", x.shift(1, 100), true);
        due("stop(1, 5, 112, 112)", x.stop(1, 5, 112, 112), -1);
        due("stop(1, 5, 113, 113)", x.stop(1, 5, 113, 113), 2);
    }

    private static void sign() {
        promise = 7;
        TrainBook x = new TrainBook();
        x.train(31);
        int[][] cannot = {
            {6, 31}, {0, 31}, {13, 31}, {-1, 31}, {LEAST, 31}, {MOST, 31}, {7, -1}, {7, 128}, {7, LEAST}, {7, MOST},
        };
        for (int[] c : cannot) {
            due("sign(" + c[0] + ", " + c[1] + ")", x.sign(c[0], c[1]), false);
            due("signs(0, 1)", x.signs(0, 1), 31);
        }
        for (int i = 12; i >= 7; i--) {
            due("sign(" + i + ", 31)", x.sign(i, 31), true);
            due("signs(0, 1)", x.signs(0, 1), 1 << i);
        }
        due("sign(7, 128)", x.sign(7, 128), false);
        due("signs(0, 1)", x.signs(0, 1), 128);
        due("sign(7, 0)", x.sign(7, 0), true);
        due("signs(0, 1)", x.signs(0, 1), 256);
        due("sign(8, 127)", x.sign(8, 127), true);
        due("signs(0, 1)", x.signs(0, 1), 512);
    }

    private static void change() {
        promise = 8;
        TrainBook x = new TrainBook();
        int[] can = {0, 60, 1, 59};
        int[] cannot = {-1, 61, LEAST, MOST};
        for (int minutes : can) {
            due("change(" + minutes + ")", x.change(minutes), true);
            due("about(1)", x.about(1), minutes);
            for (int other : cannot) {
                due("change(" + other + ")", x.change(other), false);
                due("about(1)", x.about(1), minutes);
            }
        }
    }

    private static void about() {
        promise = 9;
        TrainBook x = new TrainBook();
        add(x, 9, 3, 4, 5);
        add(x, 10, 0, 1, 2, 1, 3, 4, 2, 5, 6, 3, 7, 8, 4, 9, 10, 5, 11, 12, 6, 13, 14);
        for (int t = 2; t < 10; t++) {
            add(x, 100 + t, t, 20 + t, 30 + t);
        }
        int[][] want = {
            {0, 10}, {1, 5}, {2, 0}, {3, 0}, {4, -1}, {-1, -1}, {10, -1}, {11, -1}, {99, -1}, {LEAST, -1}, {MOST, -1},
            {100, 9}, {101, 1}, {102, -1}, {109, -1}, {110, 3}, {111, 4}, {112, 5}, {113, -1}, {119, -1}, {120, -1},
            {200, 10}, {201, 7}, {210, 0}, {211, 1}, {212, 2}, {240, 3}, {241, 7}, {242, 8}, {270, 6}, {271, 13},
            {272, 14}, {273, -1}, {280, -1}, {281, -1}, {290, -1}, {299, -1},
            {1000, 109}, {1001, 1}, {1010, 9}, {1011, 29}, {1012, 39}, {1020, -1}, {1100, -1}, {1101, -1}, {-100, -1},
        };
        for (int[] w : want) {
            due("about(" + w[0] + ")", x.about(w[0]), w[1]);
        }
        x.table(2);
        due("about(2)", x.about(2), 7);
        due("about(3)", x.about(3), 1);
    }

    private static void signs() {
        promise = 10;
        TrainBook x = new TrainBook();
        due("signs without a train", x.signs(0, 0), -1);
        add(x, 0b0111110);
        due("signs(0, 0)", x.signs(0, 0), 5);
        due("signs(0, 1)", x.signs(0, 1), 62);
        x.sign(7, 0b0001110);
        x.sign(8, 0b0111000);
        due("they may overlap", x.signs(0, 0), 2);
        due("they may overlap", x.signs(0, 1), 128 + 256);
        x.sign(9, 0b1111110);
        due("no other day", x.signs(0, 0), 2);
        x.sign(8, 0);
        due("a single day too", x.signs(0, 0), 3);
        due("a single day too", x.signs(0, 1), 128 + 16 + 32);
        x.sign(12, 0b0110000);
        x.sign(11, 0b0110000);
        due("the least number", x.signs(0, 1), 128 + 2048);
        x.sign(10, 0b0000010);
        x.days(0, 2);
        due("the single day is less", x.signs(0, 1), 2);
        due("signs(0, 2)", x.signs(0, 2), -1);
        due("signs(0, -1)", x.signs(0, -1), -1);
        due("signs(1, 0)", x.signs(1, 0), -1);
        due("signs(-1, 0)", x.signs(-1, 0), -1);
        due("signs(LEAST, MOST)", x.signs(LEAST, MOST), -1);
        x.days(0, 127);
        x.sign(7, 3);
        x.sign(8, 12);
        x.sign(9, 48);
        x.sign(10, 7);
        x.sign(11, 56);
        x.sign(12, 64);
        due("fewest before least", x.signs(0, 1), 64 + 1024 + 2048);
    }

    private static void table() {
        promise = 11;
        TrainBook x = new TrainBook();
        for (int t = 0; t < 8; t++) {
            add(x, 1, t, 20 * t + 10, 20 * t + 10, t + 1, 20 * t + 20, 20 * t + 20);
        }
        add(x, 1, 0, 10, 10);
        x.train(1);
        int[] cannot = {0, -1, 1 << 8, 1 << 9, 1 + 256, 1 + 512, 1024, 1 + 1024, 127, 255, LEAST, MOST, LEAST + 1};
        for (int set : cannot) {
            due("table(" + set + ")", x.table(set), -1);
            due("about(2)", x.about(2), 0);
            due("about(3)", x.about(3), 0);
        }
        due("table(63)", x.table(63), 7);
        dueRows(x, 0, 1, 2, 3, 4, 5, 6);
        dueColumns(x, 0, 1, 2, 3, 4, 5);
        due("table(252)", x.table(252), 7);
        dueRows(x, 2, 3, 4, 5, 6, 7, 8);
        for (int set : cannot) {
            due("table(" + set + ")", x.table(set), -1);
            due("about(2)", x.about(2), 7);
        }
        dueColumns(x, 2, 3, 4, 5, 6, 7);
        due("table(128)", x.table(128), 2);
        dueColumns(x, 7);
        x.stop(8, 3, 20, 20);
        due("table(256)", x.table(256), 2);
        dueRows(x, 0, 3);
    }

    private static void tableStays() {
        TrainBook x = new TrainBook();
        add(x, 1, 0, 10, 11, 1, 20, 21, 2, 30, 31);
        add(x, 1, 0, 15, 16, 2, 25, 26);
        due("table(3)", x.table(3), 3);
        x.shift(0, 100);
        x.cut(1);
        x.days(0, 2);
        x.stop(1, 5, 500, 500);
        x.train(1);
        dueRows(x, 0, 1, 2);
        dueColumns(x, 0, 1);
        due("cell(0, 0, 0)", x.cell(0, 0, 0), 10);
        due("cell(2, 1, 1)", x.cell(2, 1, 1), 26);
        due("cell(1, 1, 0)", x.cell(1, 1, 0), -2);
        due("breaches(0)", x.breaches(0), 1);
        due("breaches(1)", x.breaches(1), 1);
        due("breach(0, 1)", x.breach(0, 1), 1);
        due("lanes()", x.lanes(), 2);
        due("lane(1)", x.lane(1), 1);
    }

    private static void row() {
        promise = 12;
        TrainBook x = new TrainBook();
        add(x, 1, 5, 1, 1, 3, 2, 2, 1, 3, 3);
        add(x, 1, 4, 1, 1, 3, 2, 2, 2, 3, 3);
        x.table(3);
        dueRows(x, 4, 5, 3, 1, 2);
        due("row(-1)", x.row(-1), -1);
        due("row(LEAST)", x.row(LEAST), -1);
        due("row(MOST)", x.row(MOST), -1);
        due("row(41)", x.row(41), -1);

        TrainBook back = new TrainBook();
        add(back, 1, 2, 1, 1, 1, 2, 2, 0, 3, 3);
        add(back, 1, 0, 1, 1, 1, 2, 2, 2, 3, 3);
        due("one comes again", back.table(3), 5);
        dueRows(back, 0, 1, 2, 1, 0);

        TrainBook three = new TrainBook();
        add(three, 1, 0, 1, 1, 1, 2, 2, 2, 3, 3);
        add(three, 1, 1, 1, 1, 2, 2, 2, 0, 3, 3);
        add(three, 1, 2, 1, 1, 0, 2, 2, 1, 3, 3);
        due("three that turn", three.table(7), 5);
        dueRows(three, 0, 1, 2, 0, 1);
        due("the length before the order", three.table(6), 4);
        dueRows(three, 1, 2, 0, 1);
    }

    private static void column() {
        promise = 13;
        TrainBook x = new TrainBook();
        add(x, 1, 0, 50, 50, 1, 60, 60);
        add(x, 1, 0, 30, 30, 1, 40, 40);
        add(x, 1, 2, 10, 10, 3, 20, 20);
        add(x, 1, 0, 10, 10, 1, 20, 20);
        x.table(15);
        dueColumns(x, 2, 3, 1, 0);
        due("column(-1)", x.column(-1), -1);
        due("column(LEAST)", x.column(LEAST), -1);
        due("column(MOST)", x.column(MOST), -1);
        due("breaches(0)", x.breaches(0), 0);
        x.table(7);
        dueColumns(x, 1, 0, 2);
        due("alike minutes breach nothing", x.shift(3, 20), true);
        x.table(10);
        dueColumns(x, 1, 3);
        due("breaches(0)", x.breaches(0), 0);

        TrainBook ring = new TrainBook();
        add(ring, 1, 0, 10, 10, 2, 50, 50, 9, 60, 60);
        add(ring, 1, 0, 20, 20, 1, 30, 30, 9, 60, 60);
        add(ring, 1, 1, 35, 35, 2, 40, 40, 9, 60, 60);
        ring.table(7);
        due("one is not enough", ring.breaches(0), 1);
        dueColumns(ring, 0, 1, 2);
    }

    private static void cell() {
        promise = 14;
        TrainBook x = new TrainBook();
        add(x, 1, 0, 0, 1, 1, 2, 3, 2, 4, 5, 3, 6, 7, 4, 8, 9);
        add(x, 1, 1, 10, 11, 3, 12, 13);
        due("table(3)", x.table(3), 5);
        int[][] want = {
            {0, 0, 0, 0}, {0, 0, 1, 1}, {4, 0, 0, 8}, {4, 0, 1, 9}, {0, 1, 0, -1}, {0, 1, 1, -1}, {1, 1, 0, 10},
            {1, 1, 1, 11}, {2, 1, 0, -2}, {2, 1, 1, -2}, {3, 1, 0, 12}, {3, 1, 1, 13}, {4, 1, 0, -1}, {4, 1, 1, -1},
            {5, 0, 0, -3}, {-1, 0, 0, -3}, {0, 2, 0, -3}, {0, -1, 0, -3}, {0, 0, 2, -3}, {0, 0, -1, -3},
            {LEAST, 0, 0, -3}, {MOST, 0, 0, -3}, {0, LEAST, 0, -3}, {0, MOST, 0, -3}, {0, 0, LEAST, -3},
            {0, 0, MOST, -3}, {0, 1, 2, -3},
        };
        for (int[] w : want) {
            due("cell(" + w[0] + ", " + w[1] + ", " + w[2] + ")", x.cell(w[0], w[1], w[2]), w[3]);
        }

        TrainBook again = new TrainBook();
        add(again, 1, 0, 1, 2, 1, 3, 4);
        add(again, 1, 1, 5, 6, 0, 7, 8);
        again.table(3);
        dueRows(again, 0, 1, 0);
        due("the first row that has it", again.cell(0, 0, 0), 1);
        due("not the other one", again.cell(2, 0, 0), -1);
        due("not ahead of its first stop", again.cell(0, 1, 0), -1);
        due("the row behind", again.cell(2, 1, 1), 8);

        TrainBook own = new TrainBook();
        add(own, 1, 0, 1, 1, 1, 2, 2, 2, 3, 3);
        add(own, 1, 1, 1, 1, 0, 2, 2, 2, 3, 3);
        own.table(3);
        dueRows(own, 0, 1, 0, 2);
        due("past its own station", own.cell(2, 0, 0), -2);
    }

    private static void breaches() {
        promise = 15;
        TrainBook x = new TrainBook();
        add(x, 1, 0, 10, 10, 1, 50, 50, 2, 60, 60);
        add(x, 1, 0, 20, 20, 1, 30, 30, 2, 70, 70);
        add(x, 1, 0, 15, 15, 1, 40, 40, 2, 80, 80);
        add(x, 1, 5, 15, 15, 6, 40, 40, 7, 80, 80);
        x.table(15);
        due("breaches(0)", x.breaches(0), 3);
        due("breaches(1)", x.breaches(1), 3);
        dueColumns(x, 0, 1, 2, 3);
        x.table(9);
        due("breaches(0)", x.breaches(0), 0);
        due("breaches(1)", x.breaches(1), 0);
        due("breaches(2)", x.breaches(2), -1);
        due("breaches(-1)", x.breaches(-1), -1);
        due("breaches(LEAST)", x.breaches(LEAST), -1);

        TrainBook ring = new TrainBook();
        add(ring, 1, 0, 10, 10, 2, 50, 50, 9, 60, 60);
        add(ring, 1, 0, 20, 20, 1, 30, 30, 9, 60, 60);
        add(ring, 1, 1, 35, 35, 2, 40, 40, 9, 60, 60);
        ring.table(7);
        due("a ring of three has a breach", ring.breaches(0), 1);
        due("and no knot", ring.breaches(1), 0);

        TrainBook rows = new TrainBook();
        add(rows, 1, 0, 10, 10, 1, 50, 50);
        add(rows, 1, 1, 20, 20, 0, 30, 30);
        rows.table(3);
        due("whichever rows", rows.breaches(0), 1);
        due("whichever rows", rows.breaches(1), 1);
        due("whichever rows", rows.breach(0, 1), 1);
    }

    private static void breachAtLastStops() {
        TrainBook x = new TrainBook();
        add(x, 1, 0, 10, 10, 1, 20, 40);
        add(x, 1, 5, 10, 10, 1, 25, 30, 6, 50, 50);
        x.table(3);
        due("a last stop counts as it comes", x.breach(0, 1), 0);
        due("a last stop counts as it comes", x.breaches(1), 0);
        dueColumns(x, 0, 1);
        x.stop(0, 7, 60, 60);
        x.table(3);
        dueColumns(x, 1, 0);
        due("no last stop counts as it goes", x.breaches(0), 0);
    }

    private static void breach() {
        promise = 16;
        TrainBook x = new TrainBook();
        add(x, 1, 0, 10, 10, 1, 50, 50);
        add(x, 1, 0, 20, 20, 1, 30, 30);
        add(x, 1, 0, 60, 60, 1, 70, 70);
        x.table(7);
        due("breach(0, 1)", x.breach(0, 1), 1);
        due("breach(0, 2)", x.breach(0, 2), 0);
        due("breach(1, 2)", x.breach(1, 2), 0);
        int[][] cannot = {
            {0, 0}, {1, 0}, {2, 1}, {0, 3}, {-1, 0}, {3, 4}, {LEAST, 0}, {0, MOST}, {LEAST, MOST}, {1, 1}, {-1, -1},
        };
        for (int[] c : cannot) {
            due("breach(" + c[0] + ", " + c[1] + ")", x.breach(c[0], c[1]), -1);
        }
        x.shift(2, -60);
        x.table(7);
        dueColumns(x, 2, 0, 1);
        due("columns, not trains", x.breach(0, 1), 0);
        due("columns, not trains", x.breach(1, 2), 1);
    }

    private static void lanes() {
        promise = 17;
        TrainBook x = new TrainBook();
        add(x, 1, 0, 10, 10, 1, 20, 20);
        add(x, 1, 1, 30, 30, 2, 40, 40);
        add(x, 1, 2, 50, 50, 3, 60, 60);
        due("lanes() without a table", x.lanes(), -1);
        x.table(1);
        due("one", x.lanes(), 1);
        x.table(3);
        due("they meet in a row", x.lanes(), 2);
        x.table(5);
        due("they don't meet", x.lanes(), 1);
        x.table(7);
        due("the third gets the first one's", x.lanes(), 2);

        TrainBook past = new TrainBook();
        add(past, 1, 0, 10, 10, 3, 20, 20);
        add(past, 1, 1, 30, 30, 2, 40, 40);
        add(past, 1, 0, 30, 30, 1, 40, 40, 2, 45, 45, 3, 50, 50);
        past.table(7);
        due("a row that is past is had", past.lanes(), 3);
    }

    private static void lane() {
        promise = 18;
        TrainBook x = new TrainBook();
        add(x, 1, 2, 10, 10, 3, 20, 20);
        add(x, 1, 0, 30, 30, 1, 40, 40);
        add(x, 1, 0, 35, 35, 1, 45, 45, 2, 50, 50, 3, 60, 60, 4, 70, 70, 5, 80, 80);
        add(x, 1, 4, 50, 50, 5, 60, 60);
        due("lane(0) without a table", x.lane(0), -1);
        x.table(15);
        dueRows(x, 0, 1, 2, 3, 4, 5);
        dueColumns(x, 0, 1, 3, 2);
        due("of alike ones the lesser train first", x.lane(1), 0);
        due("the next lane", x.lane(3), 1);
        due("the least that is free", x.lane(0), 0);
        due("the least that is free", x.lane(2), 0);
        due("lanes()", x.lanes(), 2);
        due("lane(4)", x.lane(4), -1);
        due("lane(-1)", x.lane(-1), -1);
        due("lane(LEAST)", x.lane(LEAST), -1);
        due("lane(MOST)", x.lane(MOST), -1);

        TrainBook begin = new TrainBook();
        add(begin, 1, 1, 10, 10, 2, 20, 20);
        add(begin, 1, 0, 5, 5, 1, 7, 7);
        begin.table(3);
        dueColumns(begin, 1, 0);
        due("by the rows at which they begin", begin.lane(0), 0);
        due("by the rows at which they begin", begin.lane(1), 1);
    }

    private static void dueWay(TrainBook x, int from, int to, int minute, int... parts) {
        String name = "way(" + from + ", " + to + ", 0, " + minute + ", ";
        int legs = parts.length / 5;
        due(name + "0)", x.way(from, to, 0, minute, 0), parts[parts.length - 1]);
        due(name + "1)", x.way(from, to, 0, minute, 1), legs);
        due(name + "2)", x.way(from, to, 0, minute, 2), parts[3]);
        for (int i = 0; i < parts.length; i++) {
            int what = i / 5 * 10 + 10 + i % 5;
            due(name + what + ")", x.way(from, to, 0, minute, what), parts[i]);
        }
        int[] others = {-1, -10, 3, 9, 15, 19, 10 * legs + 10, 10 * legs + 14, 120, 1000, LEAST, MOST};
        for (int what : others) {
            due(name + what + ")", x.way(from, to, 0, minute, what), -1);
        }
    }

    private static void way() {
        promise = 19;
        TrainBook x = new TrainBook();
        add(x, 1, 0, 10, 12, 1, 20, 25, 2, 40, 45);
        add(x, 1, 2, 49, 50, 3, 60, 61, 4, 70, 70);
        add(x, 1, 0, 30, 30, 4, 90, 90);
        dueWay(x, 0, 1, 0, 0, 0, 1, 12, 20);
        dueWay(x, 0, 1, 12, 0, 0, 1, 12, 20);
        due("it is gone", x.way(0, 1, 0, 13, 0), -1);
        dueWay(x, 0, 4, 0, 0, 0, 2, 12, 40, 1, 2, 4, 50, 70);
        dueWay(x, 0, 4, 13, 2, 0, 4, 30, 90);
        dueWay(x, 1, 3, 25, 0, 1, 2, 25, 40, 1, 2, 3, 50, 60);
        due("not backward", x.way(1, 0, 0, 0, 0), -1);
        due("not from a last stop", x.way(4, 0, 0, 0, 0), -1);
        due("no train there", x.way(0, 11, 0, 0, 0), -1);
        int[][] cannot = {
            {0, 0, 0, 0}, {-1, 1, 0, 0}, {12, 1, 0, 0}, {0, -1, 0, 0}, {0, 12, 0, 0}, {0, 1, -1, 0}, {0, 1, 7, 0},
            {0, 1, 0, -1}, {0, 1, 0, 1440}, {LEAST, 1, 0, 0}, {0, MOST, 0, 0}, {0, 1, LEAST, 0}, {0, 1, MOST, 0},
            {0, 1, 0, LEAST}, {0, 1, 0, MOST}, {0, 1, 32, 0}, {0, 1, 1, 0},
        };
        for (int[] c : cannot) {
            for (int what = 0; what < 15; what++) {
                due("way(" + c[0] + ", " + c[1] + ", " + c[2] + ", " + c[3] + ", " + what + ")",
                        x.way(c[0], c[1], c[2], c[3], what), -1);
            }
        }
        TrainBook edge = new TrainBook();
        add(edge, 1, 0, 0, 0, 1, 1439, 1439);
        dueWay(edge, 0, 1, 0, 0, 0, 1, 0, 1439);
        due("the last minute", edge.way(0, 1, 0, 1439, 0), -1);
    }

    private static void wayOfFewestTrains() {
        TrainBook x = new TrainBook();
        add(x, 1, 0, 10, 10, 1, 20, 20);
        add(x, 1, 1, 30, 30, 2, 50, 50);
        add(x, 1, 0, 5, 5, 2, 50, 50);
        dueWay(x, 0, 2, 0, 2, 0, 2, 5, 50);
        dueWay(x, 0, 2, 6, 0, 0, 1, 10, 20, 1, 1, 2, 30, 50);
        x.shift(2, 1);
        dueWay(x, 0, 2, 0, 0, 0, 1, 10, 20, 1, 1, 2, 30, 50);
    }

    private static void wayOfLeastTrains() {
        TrainBook x = new TrainBook();
        add(x, 1, 3, 70, 70, 4, 90, 90);
        add(x, 1, 0, 10, 10, 2, 20, 20, 1, 30, 30);
        add(x, 1, 0, 11, 11, 1, 40, 40);
        add(x, 1, 1, 50, 50, 4, 90, 90);
        dueWay(x, 0, 4, 0, 1, 0, 1, 10, 30, 3, 1, 4, 50, 90);
        dueWay(x, 0, 4, 11, 2, 0, 1, 11, 40, 3, 1, 4, 50, 90);
        add(x, 1, 2, 30, 30, 4, 90, 90);
        dueWay(x, 0, 4, 0, 1, 0, 1, 10, 30, 3, 1, 4, 50, 90);

        TrainBook open = new TrainBook();
        add(open, 1, 0, 0, 0, 5, 10, 10, 6, 20, 20);
        add(open, 1, 5, 30, 30, 7, 40, 40, 6, 50, 50, 8, 60, 60);
        add(open, 1, 7, 70, 70, 9, 99, 99);
        add(open, 1, 8, 70, 70, 9, 99, 99);
        dueWay(open, 0, 9, 0, 0, 0, 5, 0, 10, 1, 5, 7, 30, 40, 2, 7, 9, 70, 99);
        open.cut(2);
        dueWay(open, 0, 9, 0, 0, 0, 5, 0, 10, 1, 5, 8, 30, 60, 3, 8, 9, 70, 99);

        TrainBook stays = new TrainBook();
        add(stays, 1, 1, 20, 20, 9, 90, 90);
        add(stays, 1, 0, 0, 30, 2, 40, 40);
        add(stays, 1, 0, 0, 8, 1, 10, 10, 2, 50, 50, 3, 60, 60);
        add(stays, 1, 3, 70, 70, 9, 90, 90);
        due("no train is left where it is boarded", stays.way(0, 9, 0, 9, 1), 3);
        dueWay(stays, 0, 9, 9, 1, 0, 2, 30, 40, 2, 2, 3, 50, 60, 3, 3, 9, 70, 90);

        TrainBook before = new TrainBook();
        add(before, 1, 5, 40, 40, 6, 60, 60);
        add(before, 1, 0, 10, 10, 3, 20, 20, 5, 30, 30);
        add(before, 1, 3, 40, 40, 6, 60, 60);
        dueWay(before, 0, 6, 0, 1, 0, 5, 10, 30, 0, 5, 6, 40, 60);
    }

    private static void wayOfLeastStations() {
        TrainBook x = new TrainBook();
        add(x, 1, 0, 10, 10, 5, 20, 20, 4, 30, 30, 6, 40, 40);
        add(x, 1, 5, 60, 60, 4, 70, 70, 6, 80, 80, 3, 90, 90);
        dueWay(x, 0, 3, 0, 0, 0, 4, 10, 30, 1, 4, 3, 70, 90);
        x.change(41);
        due("none is left", x.way(0, 3, 0, 0, 0), -1);
        x.change(40);
        dueWay(x, 0, 3, 0, 0, 0, 4, 10, 30, 1, 4, 3, 70, 90);

        TrainBook three = new TrainBook();
        add(three, 1, 0, 10, 10, 7, 20, 20, 1, 30, 30);
        add(three, 1, 7, 40, 40, 2, 45, 45, 1, 50, 50, 3, 60, 60);
        add(three, 1, 2, 70, 70, 3, 80, 80, 9, 90, 90);
        dueWay(three, 0, 9, 0, 0, 0, 1, 10, 30, 1, 1, 3, 50, 60, 2, 3, 9, 80, 90);

        TrainBook late = new TrainBook();
        add(late, 1, 0, 10, 10, 7, 20, 20, 1, 30, 30);
        add(late, 1, 7, 40, 40, 2, 45, 45, 1, 50, 50, 3, 60, 60);
        add(late, 1, 2, 70, 70, 9, 90, 90);
        dueWay(late, 0, 9, 0, 0, 0, 7, 10, 20, 1, 7, 2, 40, 45, 2, 2, 9, 70, 90);
    }

    private static void wayAndChange() {
        TrainBook x = new TrainBook();
        add(x, 1, 0, 10, 10, 1, 20, 60);
        add(x, 1, 1, 0, 25, 2, 40, 40);
        dueWay(x, 0, 2, 0, 0, 0, 1, 10, 20, 1, 1, 2, 25, 40);
        x.change(6);
        due("a minute short", x.way(0, 2, 0, 0, 0), -1);
        due("the first needs no change", x.way(1, 2, 0, 25, 0), 40);
        x.change(0);
        x.shift(0, 5);
        dueWay(x, 0, 2, 0, 0, 0, 1, 15, 25, 1, 1, 2, 25, 40);
        x.change(60);
        due("one train needs none", x.way(1, 2, 0, 25, 0), 40);
        x.stop(0, 2, 70, 70);
        dueWay(x, 0, 2, 0, 0, 0, 2, 15, 70);
    }

    private static void wayOfDays() {
        TrainBook x = new TrainBook();
        add(x, 1 + 64, 0, 10, 10, 1, 20, 20);
        add(x, 2 + 64, 1, 30, 30, 2, 40, 40);
        due("day 0", x.way(0, 2, 0, 0, 0), -1);
        due("day 1", x.way(0, 2, 1, 0, 0), -1);
        due("day 6", x.way(0, 2, 6, 0, 0), 40);
        due("day 0, the first", x.way(0, 1, 0, 0, 0), 20);
        due("day 1, the second", x.way(1, 2, 1, 0, 0), 40);
        x.days(0, 2);
        due("day 1", x.way(0, 2, 1, 0, 1), 2);
        due("day 6", x.way(0, 2, 6, 0, 0), -1);
    }

    private static void dueDepartures(TrainBook x, int from, int to, int... minutes) {
        due("departures(" + from + ", " + to + ", 0)", x.departures(from, to, 0), minutes.length);
        for (int k = 0; k < minutes.length; k++) {
            due("departure(" + from + ", " + to + ", 0, " + k + ")", x.departure(from, to, 0, k), minutes[k]);
        }
        due("departure behind the last", x.departure(from, to, 0, minutes.length), -1);
    }

    private static void departures() {
        promise = 20;
        TrainBook x = new TrainBook();
        due("no train", x.departures(0, 1, 0), 0);
        add(x, 1, 0, 30, 30, 1, 40, 40);
        add(x, 1, 0, 10, 10, 1, 20, 20);
        add(x, 1, 0, 25, 28, 1, 45, 45);
        add(x, 1, 0, 29, 29, 1, 40, 40);
        add(x, 2, 0, 50, 50, 1, 60, 60);
        dueDepartures(x, 0, 1, 10, 30);
        add(x, 1, 0, 50, 50, 5, 51, 51);
        add(x, 1, 5, 56, 56, 1, 57, 57);
        add(x, 1, 0, 0, 0, 1, 1, 1);
        dueDepartures(x, 0, 1, 0, 10, 30, 50);
        x.change(6);
        dueDepartures(x, 0, 1, 0, 10, 30);
        dueDepartures(x, 1, 0);
        due("day 1", x.departures(0, 1, 1), 1);
        int[][] cannot = {
            {0, 0, 0}, {-1, 1, 0}, {12, 1, 0}, {0, -1, 0}, {0, 12, 0}, {0, 1, -1}, {0, 1, 7}, {LEAST, 1, 0},
            {0, MOST, 0}, {0, 1, LEAST}, {0, 1, MOST},
        };
        for (int[] c : cannot) {
            due("departures(" + c[0] + ", " + c[1] + ", " + c[2] + ")", x.departures(c[0], c[1], c[2]), -1);
            due("departure(" + c[0] + ", " + c[1] + ", " + c[2] + ", 0)", x.departure(c[0], c[1], c[2], 0), -1);
        }
    }

    private static void departure() {
        promise = 21;
        TrainBook x = new TrainBook();
        for (int t = 9; t >= 0; t--) {
            add(x, 1, 3, 10 * t, 10 * t + 1, 4, 100 + t, 100 + t);
        }
        dueDepartures(x, 3, 4, 1, 11, 21, 31, 41, 51, 61, 71, 81, 91);
        due("departure(3, 4, 0, -1)", x.departure(3, 4, 0, -1), -1);
        due("departure(3, 4, 0, LEAST)", x.departure(3, 4, 0, LEAST), -1);
        due("departure(3, 4, 0, MOST)", x.departure(3, 4, 0, MOST), -1);
        x.days(0, 2);
        dueDepartures(x, 3, 4, 1, 11, 21, 31, 41, 51, 61, 71, 81);
        due("departure(3, 4, 1, 0)", x.departure(3, 4, 1, 0), 91);
        due("departure(3, 4, 1, 1)", x.departure(3, 4, 1, 1), -1);
        due("departure(3, 4, 2, 0)", x.departure(3, 4, 2, 0), -1);
    }
}

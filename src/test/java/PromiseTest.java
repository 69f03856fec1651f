/** Each promise of the document by itself: ordinary inputs, the edges it names, wrong inputs. */
public final class PromiseTest {
    private static final int LEAST = Check.LEAST;
    private static final int MOST = Check.MOST;

    public static void main(String[] args) {
        Check.runAll(PromiseTest.class, "promise", 1, 21);
    }

    static void promise1ANewObject() {
        TrainBook x = new TrainBook();
        Check.due("NONE", TrainBook.NONE, -1);
        Check.due("about(0)", x.about(0), 0);
        Check.due("about(1)", x.about(1), 5);
        Check.due("about(2)", x.about(2), 0);
        Check.due("about(3)", x.about(3), 0);
        Check.due("about(100)", x.about(100), -1);
        Check.due("row(0)", x.row(0), -1);
        Check.due("column(0)", x.column(0), -1);
        Check.due("cell(0, 0, 0)", x.cell(0, 0, 0), -3);
        Check.due("breaches(0)", x.breaches(0), -1);
        Check.due("breaches(1)", x.breaches(1), -1);
        Check.due("breach(0, 1)", x.breach(0, 1), -1);
        Check.due("lanes()", x.lanes(), -1);
        Check.due("lane(0)", x.lane(0), -1);
        Check.due("table(1)", x.table(1), -1);
        Check.due("way", x.way(0, 1, 0, 0, 0), -1);
        Check.due("departures", x.departures(0, 1, 0), 0);
        Check.add(x, 1, 0, 1, 1, 1, 2, 2);
        Check.due("another object's about(0)", new TrainBook().about(0), 0);
    }

    static void promise2Train() {
        TrainBook x = new TrainBook();
        int[] cannot = {0, -1, 128, 255, LEAST, MOST};
        for (int days : cannot) {
            Check.due("train(" + days + ")", x.train(days), -1);
        }
        Check.due("about(0)", x.about(0), 0);
        for (int t = 0; t < 10; t++) {
            int days = t == 9 ? 127 : t + 1;
            Check.due("train(" + days + ")", x.train(days), t);
            Check.due("its days", x.about(100 * t + 100), days);
            Check.due("its stops", x.about(100 * t + 101), 0);
            Check.due("about(0)", x.about(0), t + 1);
        }
        Check.due("the eleventh train", x.train(1), -1);
        Check.due("about(0)", x.about(0), 10);
        Check.due("about(1100)", x.about(1100), -1);
    }

    static void promise3Stop() {
        TrainBook x = new TrainBook();
        Check.due("stop without a train", x.stop(0, 0, 0, 0), -1);
        x.train(1);
        x.train(1);
        int[][] cannot = {
            {-1, 0, 5, 6}, {2, 0, 5, 6}, {LEAST, 0, 5, 6}, {MOST, 0, 5, 6},
            {0, -1, 5, 6}, {0, 12, 5, 6}, {0, LEAST, 5, 6}, {0, MOST, 5, 6},
            {0, 0, -1, 6}, {0, 0, 6, 5}, {0, 0, 5, 1440}, {0, 0, 1440, 1440}, {0, 0, LEAST, 5},
            {0, 0, 5, MOST}, {0, 0, MOST, MOST}, {0, 0, LEAST, LEAST}, {0, 0, -2, -1},
        };
        for (int[] c : cannot) {
            Check.due("stop(" + c[0] + ", " + c[1] + ", " + c[2] + ", " + c[3] + ")", x.stop(c[0], c[1], c[2], c[3]), -1);
        }
        Check.due("about(101)", x.about(101), 0);
        Check.due("stop(0, 11, 0, 0)", x.stop(0, 11, 0, 0), 1);
        Check.due("the same station", x.stop(0, 11, 5, 6), -1);
        Check.due("comes when it goes", x.stop(0, 3, 0, 6), -1);
        Check.due("comes a minute later", x.stop(0, 3, 1, 6), 2);
        Check.due("comes before it goes", x.stop(0, 4, 5, 9), -1);
        Check.due("comes when it goes", x.stop(0, 4, 6, 9), -1);
        Check.due("the third", x.stop(0, 4, 7, 7), 3);
        Check.due("the fourth", x.stop(0, 0, 8, 8), 4);
        Check.due("the fifth", x.stop(0, 1, 9, 9), 5);
        Check.due("the sixth", x.stop(0, 2, 10, 10), 6);
        Check.due("the seventh", x.stop(0, 5, 1439, 1439), 7);
        x.cut(0);
        Check.due("the seventh", x.stop(0, 5, 11, 11), 7);
        Check.due("the eighth", x.stop(0, 6, 12, 12), -1);
        Check.due("about(101)", x.about(101), 7);
        Check.due("about(170)", x.about(170), 5);
        Check.due("about(171)", x.about(171), 11);
        Check.due("about(121)", x.about(121), 1);
        Check.due("about(122)", x.about(122), 6);
        Check.due("another train's stops", x.about(201), 0);
        Check.due("another train at the same station", x.stop(1, 11, 0, 1439), 1);
    }

    static void promise3StopLeavesTheTable() {
        TrainBook x = new TrainBook();
        Check.add(x, 1, 4, 10, 11, 5, 20, 21);
        Check.due("table(1)", x.table(1), 2);
        Check.due("stop(0, 6, 30, 31)", x.stop(0, 6, 30, 31), 3);
        Check.dueRows(x, 4, 5);
        Check.due("table(1)", x.table(1), 3);
        Check.dueRows(x, 4, 5, 6);
    }

    static void promise4Days() {
        TrainBook x = new TrainBook();
        Check.due("days without a train", x.days(0, 1), false);
        x.train(3);
        x.train(5);
        Check.due("days(0, 127)", x.days(0, 127), true);
        Check.due("about(100)", x.about(100), 127);
        Check.due("about(200)", x.about(200), 5);
        int[] cannot = {0, -1, 128, LEAST, MOST};
        for (int days : cannot) {
            Check.due("days(0, " + days + ")", x.days(0, days), false);
        }
        Check.due("about(100)", x.about(100), 127);
        Check.due("days(1, 1)", x.days(1, 1), true);
        Check.due("about(200)", x.about(200), 1);
        Check.due("days(2, 1)", x.days(2, 1), false);
        Check.due("days(-1, 1)", x.days(-1, 1), false);
        Check.due("days(MOST, 1)", x.days(MOST, 1), false);
    }

    static void promise5Cut() {
        TrainBook x = new TrainBook();
        Check.due("cut without a train", x.cut(0), false);
        Check.add(x, 1, 4, 10, 12, 5, 20, 25, 6, 30, 30);
        Check.due("cut(0)", x.cut(0), true);
        Check.due("about(101)", x.about(101), 2);
        Check.due("about(130)", x.about(130), -1);
        Check.due("about(120)", x.about(120), 5);
        Check.due("the way to it is gone", x.way(4, 6, 0, 0, 0), -1);
        Check.due("the station again", x.stop(0, 6, 26, 27), 3);
        Check.due("cut(0)", x.cut(0), true);
        Check.due("cut(0)", x.cut(0), true);
        Check.due("cut(0)", x.cut(0), true);
        Check.due("cut(0)", x.cut(0), false);
        Check.due("about(101)", x.about(101), 0);
        Check.due("anything may come", x.stop(0, 4, 0, 0), 1);
        Check.due("cut(1)", x.cut(1), false);
        Check.due("cut(-1)", x.cut(-1), false);
        Check.due("cut(LEAST)", x.cut(LEAST), false);
        Check.due("about(101)", x.about(101), 1);
    }

    static void promise6Shift() {
        TrainBook x = new TrainBook();
        Check.due("shift without a train", x.shift(0, 0), false);
        Check.add(x, 1, 4, 10, 12, 5, 20, 1400);
        Check.add(x, 1, 4, 10, 12);
        x.train(1);
        Check.due("shift(0, -11)", x.shift(0, -11), false);
        Check.due("shift(0, 40)", x.shift(0, 40), false);
        Check.due("shift(0, LEAST)", x.shift(0, LEAST), false);
        Check.due("shift(0, MOST)", x.shift(0, MOST), false);
        Check.due("about(111)", x.about(111), 10);
        Check.due("about(122)", x.about(122), 1400);
        Check.due("shift(0, 39)", x.shift(0, 39), true);
        Check.due("about(111)", x.about(111), 49);
        Check.due("about(112)", x.about(112), 51);
        Check.due("about(121)", x.about(121), 59);
        Check.due("about(122)", x.about(122), 1439);
        Check.due("about(120)", x.about(120), 5);
        Check.due("shift(0, 1)", x.shift(0, 1), false);
        Check.due("shift(0, 0)", x.shift(0, 0), true);
        Check.due("shift(0, -49)", x.shift(0, -49), true);
        Check.due("about(111)", x.about(111), 0);
        Check.due("about(122)", x.about(122), 1390);
        Check.due("shift(0, -1)", x.shift(0, -1), false);
        Check.due("another train", x.about(211), 10);
        Check.due("no stop is beyond", x.shift(2, 5000), true);
        Check.due("no such train", x.shift(3, 0), false);
        Check.due("no such train", x.shift(-1, 0), false);
        Check.due("comes behind the later minute", x.shift(1, 100), true);
        Check.due("stop(1, 5, 112, 112)", x.stop(1, 5, 112, 112), -1);
        Check.due("stop(1, 5, 113, 113)", x.stop(1, 5, 113, 113), 2);
    }

    static void promise7Sign() {
        TrainBook x = new TrainBook();
        x.train(31);
        int[][] cannot = {
            {6, 31}, {0, 31}, {13, 31}, {-1, 31}, {LEAST, 31}, {MOST, 31}, {7, -1}, {7, 128}, {7, LEAST}, {7, MOST},
        };
        for (int[] c : cannot) {
            Check.due("sign(" + c[0] + ", " + c[1] + ")", x.sign(c[0], c[1]), false);
            Check.due("signs(0, 1)", x.signs(0, 1), 31);
        }
        for (int i = 12; i >= 7; i--) {
            Check.due("sign(" + i + ", 31)", x.sign(i, 31), true);
            Check.due("signs(0, 1)", x.signs(0, 1), 1 << i);
        }
        Check.due("sign(7, 128)", x.sign(7, 128), false);
        Check.due("signs(0, 1)", x.signs(0, 1), 128);
        Check.due("sign(7, 0)", x.sign(7, 0), true);
        Check.due("signs(0, 1)", x.signs(0, 1), 256);
        Check.due("sign(8, 127)", x.sign(8, 127), true);
        Check.due("signs(0, 1)", x.signs(0, 1), 512);
    }

    static void promise8Change() {
        TrainBook x = new TrainBook();
        int[] can = {0, 60, 1, 59};
        int[] cannot = {-1, 61, LEAST, MOST};
        for (int minutes : can) {
            Check.due("change(" + minutes + ")", x.change(minutes), true);
            Check.due("about(1)", x.about(1), minutes);
            for (int other : cannot) {
                Check.due("change(" + other + ")", x.change(other), false);
                Check.due("about(1)", x.about(1), minutes);
            }
        }
    }

    static void promise9About() {
        TrainBook x = new TrainBook();
        Check.add(x, 9, 3, 4, 5);
        Check.add(x, 10, 0, 1, 2, 1, 3, 4, 2, 5, 6, 3, 7, 8, 4, 9, 10, 5, 11, 12, 6, 13, 14);
        for (int t = 2; t < 10; t++) {
            Check.add(x, 100 + t, t, 20 + t, 30 + t);
        }
        int[][] want = {
            {0, 10}, {1, 5}, {2, 0}, {3, 0}, {4, -1}, {-1, -1}, {10, -1}, {11, -1}, {99, -1}, {LEAST, -1}, {MOST, -1},
            {100, 9}, {101, 1}, {102, -1}, {109, -1}, {110, 3}, {111, 4}, {112, 5}, {113, -1}, {119, -1}, {120, -1},
            {200, 10}, {201, 7}, {210, 0}, {211, 1}, {212, 2}, {240, 3}, {241, 7}, {242, 8}, {270, 6}, {271, 13},
            {272, 14}, {273, -1}, {280, -1}, {281, -1}, {290, -1}, {299, -1},
            {1000, 109}, {1001, 1}, {1010, 9}, {1011, 29}, {1012, 39}, {1020, -1}, {1100, -1}, {1101, -1}, {-100, -1},
        };
        for (int[] w : want) {
            Check.due("about(" + w[0] + ")", x.about(w[0]), w[1]);
        }
        x.table(2);
        Check.due("about(2)", x.about(2), 7);
        Check.due("about(3)", x.about(3), 1);
    }

    static void promise10Signs() {
        TrainBook x = new TrainBook();
        Check.due("signs without a train", x.signs(0, 0), -1);
        Check.add(x, 0b0111110);
        Check.due("signs(0, 0)", x.signs(0, 0), 5);
        Check.due("signs(0, 1)", x.signs(0, 1), 62);
        x.sign(7, 0b0001110);
        x.sign(8, 0b0111000);
        Check.due("they may overlap", x.signs(0, 0), 2);
        Check.due("they may overlap", x.signs(0, 1), 128 + 256);
        x.sign(9, 0b1111110);
        Check.due("no other day", x.signs(0, 0), 2);
        x.sign(8, 0);
        Check.due("a single day too", x.signs(0, 0), 3);
        Check.due("a single day too", x.signs(0, 1), 128 + 16 + 32);
        x.sign(12, 0b0110000);
        x.sign(11, 0b0110000);
        Check.due("the least number", x.signs(0, 1), 128 + 2048);
        x.sign(10, 0b0000010);
        x.days(0, 2);
        Check.due("the single day is less", x.signs(0, 1), 2);
        Check.due("signs(0, 2)", x.signs(0, 2), -1);
        Check.due("signs(0, -1)", x.signs(0, -1), -1);
        Check.due("signs(1, 0)", x.signs(1, 0), -1);
        Check.due("signs(-1, 0)", x.signs(-1, 0), -1);
        Check.due("signs(LEAST, MOST)", x.signs(LEAST, MOST), -1);
        x.days(0, 127);
        x.sign(7, 3);
        x.sign(8, 12);
        x.sign(9, 48);
        x.sign(10, 7);
        x.sign(11, 56);
        x.sign(12, 64);
        Check.due("fewest before least", x.signs(0, 1), 64 + 1024 + 2048);
    }

    static void promise11Table() {
        TrainBook x = new TrainBook();
        for (int t = 0; t < 8; t++) {
            Check.add(x, 1, t, 20 * t + 10, 20 * t + 10, t + 1, 20 * t + 20, 20 * t + 20);
        }
        Check.add(x, 1, 0, 10, 10);
        x.train(1);
        int[] cannot = {0, -1, 1 << 8, 1 << 9, 1 + 256, 1 + 512, 1024, 1 + 1024, 127, 255, LEAST, MOST, LEAST + 1};
        for (int set : cannot) {
            Check.due("table(" + set + ")", x.table(set), -1);
            Check.due("about(2)", x.about(2), 0);
            Check.due("about(3)", x.about(3), 0);
        }
        Check.due("table(63)", x.table(63), 7);
        Check.dueRows(x, 0, 1, 2, 3, 4, 5, 6);
        Check.dueColumns(x, 0, 1, 2, 3, 4, 5);
        Check.due("table(252)", x.table(252), 7);
        Check.dueRows(x, 2, 3, 4, 5, 6, 7, 8);
        for (int set : cannot) {
            Check.due("table(" + set + ")", x.table(set), -1);
            Check.due("about(2)", x.about(2), 7);
        }
        Check.dueColumns(x, 2, 3, 4, 5, 6, 7);
        Check.due("table(128)", x.table(128), 2);
        Check.dueColumns(x, 7);
        x.stop(8, 3, 20, 20);
        Check.due("table(256)", x.table(256), 2);
        Check.dueRows(x, 0, 3);
    }

    static void promise11TableStays() {
        TrainBook x = new TrainBook();
        Check.add(x, 1, 0, 10, 11, 1, 20, 21, 2, 30, 31);
        Check.add(x, 1, 0, 15, 16, 2, 25, 26);
        Check.due("table(3)", x.table(3), 3);
        x.shift(0, 100);
        x.cut(1);
        x.days(0, 2);
        x.stop(1, 5, 500, 500);
        x.train(1);
        Check.dueRows(x, 0, 1, 2);
        Check.dueColumns(x, 0, 1);
        Check.due("cell(0, 0, 0)", x.cell(0, 0, 0), 10);
        Check.due("cell(2, 1, 1)", x.cell(2, 1, 1), 26);
        Check.due("cell(1, 1, 0)", x.cell(1, 1, 0), -2);
        Check.due("breaches(0)", x.breaches(0), 1);
        Check.due("breaches(1)", x.breaches(1), 1);
        Check.due("breach(0, 1)", x.breach(0, 1), 1);
        Check.due("lanes()", x.lanes(), 2);
        Check.due("lane(1)", x.lane(1), 1);
    }

    static void promise12Row() {
        TrainBook x = new TrainBook();
        Check.add(x, 1, 5, 1, 1, 3, 2, 2, 1, 3, 3);
        Check.add(x, 1, 4, 1, 1, 3, 2, 2, 2, 3, 3);
        x.table(3);
        Check.dueRows(x, 4, 5, 3, 1, 2);
        Check.due("row(-1)", x.row(-1), -1);
        Check.due("row(LEAST)", x.row(LEAST), -1);
        Check.due("row(MOST)", x.row(MOST), -1);
        Check.due("row(41)", x.row(41), -1);

        TrainBook back = new TrainBook();
        Check.add(back, 1, 2, 1, 1, 1, 2, 2, 0, 3, 3);
        Check.add(back, 1, 0, 1, 1, 1, 2, 2, 2, 3, 3);
        Check.due("one comes again", back.table(3), 5);
        Check.dueRows(back, 0, 1, 2, 1, 0);

        TrainBook three = new TrainBook();
        Check.add(three, 1, 0, 1, 1, 1, 2, 2, 2, 3, 3);
        Check.add(three, 1, 1, 1, 1, 2, 2, 2, 0, 3, 3);
        Check.add(three, 1, 2, 1, 1, 0, 2, 2, 1, 3, 3);
        Check.due("three that turn", three.table(7), 5);
        Check.dueRows(three, 0, 1, 2, 0, 1);
        Check.due("the length before the order", three.table(6), 4);
        Check.dueRows(three, 1, 2, 0, 1);
    }

    static void promise13Column() {
        TrainBook x = new TrainBook();
        Check.add(x, 1, 0, 50, 50, 1, 60, 60);
        Check.add(x, 1, 0, 30, 30, 1, 40, 40);
        Check.add(x, 1, 2, 10, 10, 3, 20, 20);
        Check.add(x, 1, 0, 10, 10, 1, 20, 20);
        x.table(15);
        Check.dueColumns(x, 2, 3, 1, 0);
        Check.due("column(-1)", x.column(-1), -1);
        Check.due("column(LEAST)", x.column(LEAST), -1);
        Check.due("column(MOST)", x.column(MOST), -1);
        Check.due("breaches(0)", x.breaches(0), 0);
        x.table(7);
        Check.dueColumns(x, 1, 0, 2);
        Check.due("alike minutes breach nothing", x.shift(3, 20), true);
        x.table(10);
        Check.dueColumns(x, 1, 3);
        Check.due("breaches(0)", x.breaches(0), 0);

        TrainBook ring = new TrainBook();
        Check.add(ring, 1, 0, 10, 10, 2, 50, 50, 9, 60, 60);
        Check.add(ring, 1, 0, 20, 20, 1, 30, 30, 9, 60, 60);
        Check.add(ring, 1, 1, 35, 35, 2, 40, 40, 9, 60, 60);
        ring.table(7);
        Check.due("one is not enough", ring.breaches(0), 1);
        Check.dueColumns(ring, 0, 1, 2);
    }

    static void promise14Cell() {
        TrainBook x = new TrainBook();
        Check.add(x, 1, 0, 0, 1, 1, 2, 3, 2, 4, 5, 3, 6, 7, 4, 8, 9);
        Check.add(x, 1, 1, 10, 11, 3, 12, 13);
        Check.due("table(3)", x.table(3), 5);
        int[][] want = {
            {0, 0, 0, 0}, {0, 0, 1, 1}, {4, 0, 0, 8}, {4, 0, 1, 9}, {0, 1, 0, -1}, {0, 1, 1, -1}, {1, 1, 0, 10},
            {1, 1, 1, 11}, {2, 1, 0, -2}, {2, 1, 1, -2}, {3, 1, 0, 12}, {3, 1, 1, 13}, {4, 1, 0, -1}, {4, 1, 1, -1},
            {5, 0, 0, -3}, {-1, 0, 0, -3}, {0, 2, 0, -3}, {0, -1, 0, -3}, {0, 0, 2, -3}, {0, 0, -1, -3},
            {LEAST, 0, 0, -3}, {MOST, 0, 0, -3}, {0, LEAST, 0, -3}, {0, MOST, 0, -3}, {0, 0, LEAST, -3},
            {0, 0, MOST, -3}, {0, 1, 2, -3},
        };
        for (int[] w : want) {
            Check.due("cell(" + w[0] + ", " + w[1] + ", " + w[2] + ")", x.cell(w[0], w[1], w[2]), w[3]);
        }

        TrainBook again = new TrainBook();
        Check.add(again, 1, 0, 1, 2, 1, 3, 4);
        Check.add(again, 1, 1, 5, 6, 0, 7, 8);
        again.table(3);
        Check.dueRows(again, 0, 1, 0);
        Check.due("the first row that has it", again.cell(0, 0, 0), 1);
        Check.due("not the other one", again.cell(2, 0, 0), -1);
        Check.due("not ahead of its first stop", again.cell(0, 1, 0), -1);
        Check.due("the row behind", again.cell(2, 1, 1), 8);

        TrainBook own = new TrainBook();
        Check.add(own, 1, 0, 1, 1, 1, 2, 2, 2, 3, 3);
        Check.add(own, 1, 1, 1, 1, 0, 2, 2, 2, 3, 3);
        own.table(3);
        Check.dueRows(own, 0, 1, 0, 2);
        Check.due("past its own station", own.cell(2, 0, 0), -2);
    }

    static void promise15Breaches() {
        TrainBook x = new TrainBook();
        Check.add(x, 1, 0, 10, 10, 1, 50, 50, 2, 60, 60);
        Check.add(x, 1, 0, 20, 20, 1, 30, 30, 2, 70, 70);
        Check.add(x, 1, 0, 15, 15, 1, 40, 40, 2, 80, 80);
        Check.add(x, 1, 5, 15, 15, 6, 40, 40, 7, 80, 80);
        x.table(15);
        Check.due("breaches(0)", x.breaches(0), 3);
        Check.due("breaches(1)", x.breaches(1), 3);
        Check.dueColumns(x, 0, 1, 2, 3);
        x.table(9);
        Check.due("breaches(0)", x.breaches(0), 0);
        Check.due("breaches(1)", x.breaches(1), 0);
        Check.due("breaches(2)", x.breaches(2), -1);
        Check.due("breaches(-1)", x.breaches(-1), -1);
        Check.due("breaches(LEAST)", x.breaches(LEAST), -1);

        TrainBook ring = new TrainBook();
        Check.add(ring, 1, 0, 10, 10, 2, 50, 50, 9, 60, 60);
        Check.add(ring, 1, 0, 20, 20, 1, 30, 30, 9, 60, 60);
        Check.add(ring, 1, 1, 35, 35, 2, 40, 40, 9, 60, 60);
        ring.table(7);
        Check.due("a ring of three has a breach", ring.breaches(0), 1);
        Check.due("and no knot", ring.breaches(1), 0);

        TrainBook rows = new TrainBook();
        Check.add(rows, 1, 0, 10, 10, 1, 50, 50);
        Check.add(rows, 1, 1, 20, 20, 0, 30, 30);
        rows.table(3);
        Check.due("whichever rows", rows.breaches(0), 1);
        Check.due("whichever rows", rows.breaches(1), 1);
        Check.due("whichever rows", rows.breach(0, 1), 1);
    }

    static void promise15BreachAtLastStops() {
        TrainBook x = new TrainBook();
        Check.add(x, 1, 0, 10, 10, 1, 20, 40);
        Check.add(x, 1, 5, 10, 10, 1, 25, 30, 6, 50, 50);
        x.table(3);
        Check.due("a last stop counts as it comes", x.breach(0, 1), 0);
        Check.due("a last stop counts as it comes", x.breaches(1), 0);
        Check.dueColumns(x, 0, 1);
        x.stop(0, 7, 60, 60);
        x.table(3);
        Check.dueColumns(x, 1, 0);
        Check.due("no last stop counts as it goes", x.breaches(0), 0);
    }

    static void promise16Breach() {
        TrainBook x = new TrainBook();
        Check.add(x, 1, 0, 10, 10, 1, 50, 50);
        Check.add(x, 1, 0, 20, 20, 1, 30, 30);
        Check.add(x, 1, 0, 60, 60, 1, 70, 70);
        x.table(7);
        Check.due("breach(0, 1)", x.breach(0, 1), 1);
        Check.due("breach(0, 2)", x.breach(0, 2), 0);
        Check.due("breach(1, 2)", x.breach(1, 2), 0);
        int[][] cannot = {
            {0, 0}, {1, 0}, {2, 1}, {0, 3}, {-1, 0}, {3, 4}, {LEAST, 0}, {0, MOST}, {LEAST, MOST}, {1, 1}, {-1, -1},
        };
        for (int[] c : cannot) {
            Check.due("breach(" + c[0] + ", " + c[1] + ")", x.breach(c[0], c[1]), -1);
        }
        x.shift(2, -60);
        x.table(7);
        Check.dueColumns(x, 2, 0, 1);
        Check.due("columns, not trains", x.breach(0, 1), 0);
        Check.due("columns, not trains", x.breach(1, 2), 1);
    }

    static void promise17Lanes() {
        TrainBook x = new TrainBook();
        Check.add(x, 1, 0, 10, 10, 1, 20, 20);
        Check.add(x, 1, 1, 30, 30, 2, 40, 40);
        Check.add(x, 1, 2, 50, 50, 3, 60, 60);
        Check.due("lanes() without a table", x.lanes(), -1);
        x.table(1);
        Check.due("one", x.lanes(), 1);
        x.table(3);
        Check.due("they meet in a row", x.lanes(), 2);
        x.table(5);
        Check.due("they don't meet", x.lanes(), 1);
        x.table(7);
        Check.due("the third gets the first one's", x.lanes(), 2);

        TrainBook past = new TrainBook();
        Check.add(past, 1, 0, 10, 10, 3, 20, 20);
        Check.add(past, 1, 1, 30, 30, 2, 40, 40);
        Check.add(past, 1, 0, 30, 30, 1, 40, 40, 2, 45, 45, 3, 50, 50);
        past.table(7);
        Check.due("a row that is past is had", past.lanes(), 3);
    }

    static void promise18Lane() {
        TrainBook x = new TrainBook();
        Check.add(x, 1, 2, 10, 10, 3, 20, 20);
        Check.add(x, 1, 0, 30, 30, 1, 40, 40);
        Check.add(x, 1, 0, 35, 35, 1, 45, 45, 2, 50, 50, 3, 60, 60, 4, 70, 70, 5, 80, 80);
        Check.add(x, 1, 4, 50, 50, 5, 60, 60);
        Check.due("lane(0) without a table", x.lane(0), -1);
        x.table(15);
        Check.dueRows(x, 0, 1, 2, 3, 4, 5);
        Check.dueColumns(x, 0, 1, 3, 2);
        Check.due("of alike ones the lesser train first", x.lane(1), 0);
        Check.due("the next lane", x.lane(3), 1);
        Check.due("the least that is free", x.lane(0), 0);
        Check.due("the least that is free", x.lane(2), 0);
        Check.due("lanes()", x.lanes(), 2);
        Check.due("lane(4)", x.lane(4), -1);
        Check.due("lane(-1)", x.lane(-1), -1);
        Check.due("lane(LEAST)", x.lane(LEAST), -1);
        Check.due("lane(MOST)", x.lane(MOST), -1);

        TrainBook begin = new TrainBook();
        Check.add(begin, 1, 1, 10, 10, 2, 20, 20);
        Check.add(begin, 1, 0, 5, 5, 1, 7, 7);
        begin.table(3);
        Check.dueColumns(begin, 1, 0);
        Check.due("by the rows at which they begin", begin.lane(0), 0);
        Check.due("by the rows at which they begin", begin.lane(1), 1);
    }

    private static void dueWay(TrainBook x, int from, int to, int minute, int... parts) {
        Check.dueWay(x, from, to, minute, parts);
        int behind = 10 * (parts.length / 5) + 10;
        int[] others = {-1, -10, 3, 9, 15, 19, behind, behind + 4, 120, 1000, LEAST, MOST};
        for (int what : others) {
            Check.due("way(.., " + what + ")", x.way(from, to, 0, minute, what), -1);
        }
    }

    static void promise19Way() {
        TrainBook x = new TrainBook();
        Check.add(x, 1, 0, 10, 12, 1, 20, 25, 2, 40, 45);
        Check.add(x, 1, 2, 49, 50, 3, 60, 61, 4, 70, 70);
        Check.add(x, 1, 0, 30, 30, 4, 90, 90);
        dueWay(x, 0, 1, 0, 0, 0, 1, 12, 20);
        dueWay(x, 0, 1, 12, 0, 0, 1, 12, 20);
        Check.due("it is gone", x.way(0, 1, 0, 13, 0), -1);
        dueWay(x, 0, 4, 0, 0, 0, 2, 12, 40, 1, 2, 4, 50, 70);
        dueWay(x, 0, 4, 13, 2, 0, 4, 30, 90);
        dueWay(x, 1, 3, 25, 0, 1, 2, 25, 40, 1, 2, 3, 50, 60);
        Check.due("not backward", x.way(1, 0, 0, 0, 0), -1);
        Check.due("not from a last stop", x.way(4, 0, 0, 0, 0), -1);
        Check.due("no train there", x.way(0, 11, 0, 0, 0), -1);
        int[][] cannot = {
            {0, 0, 0, 0}, {-1, 1, 0, 0}, {12, 1, 0, 0}, {0, -1, 0, 0}, {0, 12, 0, 0}, {0, 1, -1, 0}, {0, 1, 7, 0},
            {0, 1, 0, -1}, {0, 1, 0, 1440}, {LEAST, 1, 0, 0}, {0, MOST, 0, 0}, {0, 1, LEAST, 0}, {0, 1, MOST, 0},
            {0, 1, 0, LEAST}, {0, 1, 0, MOST}, {0, 1, 32, 0}, {0, 1, 1, 0},
        };
        for (int[] c : cannot) {
            for (int what = 0; what < 15; what++) {
                Check.due("way(" + c[0] + ", " + c[1] + ", " + c[2] + ", " + c[3] + ", " + what + ")",
                        x.way(c[0], c[1], c[2], c[3], what), -1);
            }
        }
        TrainBook edge = new TrainBook();
        Check.add(edge, 1, 0, 0, 0, 1, 1439, 1439);
        dueWay(edge, 0, 1, 0, 0, 0, 1, 0, 1439);
        Check.due("the last minute", edge.way(0, 1, 0, 1439, 0), -1);
    }

    static void promise19WayOfFewestTrains() {
        TrainBook x = new TrainBook();
        Check.add(x, 1, 0, 10, 10, 1, 20, 20);
        Check.add(x, 1, 1, 30, 30, 2, 50, 50);
        Check.add(x, 1, 0, 5, 5, 2, 50, 50);
        dueWay(x, 0, 2, 0, 2, 0, 2, 5, 50);
        dueWay(x, 0, 2, 6, 0, 0, 1, 10, 20, 1, 1, 2, 30, 50);
        x.shift(2, 1);
        dueWay(x, 0, 2, 0, 0, 0, 1, 10, 20, 1, 1, 2, 30, 50);
    }

    static void promise19WayOfLeastTrains() {
        TrainBook x = new TrainBook();
        Check.add(x, 1, 3, 70, 70, 4, 90, 90);
        Check.add(x, 1, 0, 10, 10, 2, 20, 20, 1, 30, 30);
        Check.add(x, 1, 0, 11, 11, 1, 40, 40);
        Check.add(x, 1, 1, 50, 50, 4, 90, 90);
        dueWay(x, 0, 4, 0, 1, 0, 1, 10, 30, 3, 1, 4, 50, 90);
        dueWay(x, 0, 4, 11, 2, 0, 1, 11, 40, 3, 1, 4, 50, 90);
        Check.add(x, 1, 2, 30, 30, 4, 90, 90);
        dueWay(x, 0, 4, 0, 1, 0, 1, 10, 30, 3, 1, 4, 50, 90);

        TrainBook open = new TrainBook();
        Check.add(open, 1, 0, 0, 0, 5, 10, 10, 6, 20, 20);
        Check.add(open, 1, 5, 30, 30, 7, 40, 40, 6, 50, 50, 8, 60, 60);
        Check.add(open, 1, 7, 70, 70, 9, 99, 99);
        Check.add(open, 1, 8, 70, 70, 9, 99, 99);
        dueWay(open, 0, 9, 0, 0, 0, 5, 0, 10, 1, 5, 7, 30, 40, 2, 7, 9, 70, 99);
        open.cut(2);
        dueWay(open, 0, 9, 0, 0, 0, 5, 0, 10, 1, 5, 8, 30, 60, 3, 8, 9, 70, 99);

        TrainBook stays = new TrainBook();
        Check.add(stays, 1, 1, 20, 20, 9, 90, 90);
        Check.add(stays, 1, 0, 0, 30, 2, 40, 40);
        Check.add(stays, 1, 0, 0, 8, 1, 10, 10, 2, 50, 50, 3, 60, 60);
        Check.add(stays, 1, 3, 70, 70, 9, 90, 90);
        Check.due("no train is left where it is boarded", stays.way(0, 9, 0, 9, 1), 3);
        dueWay(stays, 0, 9, 9, 1, 0, 2, 30, 40, 2, 2, 3, 50, 60, 3, 3, 9, 70, 90);

        TrainBook before = new TrainBook();
        Check.add(before, 1, 5, 40, 40, 6, 60, 60);
        Check.add(before, 1, 0, 10, 10, 3, 20, 20, 5, 30, 30);
        Check.add(before, 1, 3, 40, 40, 6, 60, 60);
        dueWay(before, 0, 6, 0, 1, 0, 5, 10, 30, 0, 5, 6, 40, 60);
    }

    static void promise19WayOfLeastStations() {
        TrainBook x = new TrainBook();
        Check.add(x, 1, 0, 10, 10, 5, 20, 20, 4, 30, 30, 6, 40, 40);
        Check.add(x, 1, 5, 60, 60, 4, 70, 70, 6, 80, 80, 3, 90, 90);
        dueWay(x, 0, 3, 0, 0, 0, 4, 10, 30, 1, 4, 3, 70, 90);
        x.change(41);
        Check.due("none is left", x.way(0, 3, 0, 0, 0), -1);
        x.change(40);
        dueWay(x, 0, 3, 0, 0, 0, 4, 10, 30, 1, 4, 3, 70, 90);

        TrainBook three = new TrainBook();
        Check.add(three, 1, 0, 10, 10, 7, 20, 20, 1, 30, 30);
        Check.add(three, 1, 7, 40, 40, 2, 45, 45, 1, 50, 50, 3, 60, 60);
        Check.add(three, 1, 2, 70, 70, 3, 80, 80, 9, 90, 90);
        dueWay(three, 0, 9, 0, 0, 0, 1, 10, 30, 1, 1, 3, 50, 60, 2, 3, 9, 80, 90);

        TrainBook late = new TrainBook();
        Check.add(late, 1, 0, 10, 10, 7, 20, 20, 1, 30, 30);
        Check.add(late, 1, 7, 40, 40, 2, 45, 45, 1, 50, 50, 3, 60, 60);
        Check.add(late, 1, 2, 70, 70, 9, 90, 90);
        dueWay(late, 0, 9, 0, 0, 0, 7, 10, 20, 1, 7, 2, 40, 45, 2, 2, 9, 70, 90);
    }

    static void promise19WayAndChange() {
        TrainBook x = new TrainBook();
        Check.add(x, 1, 0, 10, 10, 1, 20, 60);
        Check.add(x, 1, 1, 0, 25, 2, 40, 40);
        dueWay(x, 0, 2, 0, 0, 0, 1, 10, 20, 1, 1, 2, 25, 40);
        x.change(6);
        Check.due("a minute short", x.way(0, 2, 0, 0, 0), -1);
        Check.due("the first needs no change", x.way(1, 2, 0, 25, 0), 40);
        x.change(0);
        x.shift(0, 5);
        dueWay(x, 0, 2, 0, 0, 0, 1, 15, 25, 1, 1, 2, 25, 40);
        x.change(60);
        Check.due("one train needs none", x.way(1, 2, 0, 25, 0), 40);
        x.stop(0, 2, 70, 70);
        dueWay(x, 0, 2, 0, 0, 0, 2, 15, 70);
    }

    static void promise19WayOfDays() {
        TrainBook x = new TrainBook();
        Check.add(x, 1 + 64, 0, 10, 10, 1, 20, 20);
        Check.add(x, 2 + 64, 1, 30, 30, 2, 40, 40);
        Check.due("day 0", x.way(0, 2, 0, 0, 0), -1);
        Check.due("day 1", x.way(0, 2, 1, 0, 0), -1);
        Check.due("day 6", x.way(0, 2, 6, 0, 0), 40);
        Check.due("day 0, the first", x.way(0, 1, 0, 0, 0), 20);
        Check.due("day 1, the second", x.way(1, 2, 1, 0, 0), 40);
        x.days(0, 2);
        Check.due("day 1", x.way(0, 2, 1, 0, 1), 2);
        Check.due("day 6", x.way(0, 2, 6, 0, 0), -1);
    }

    static void promise20Departures() {
        TrainBook x = new TrainBook();
        Check.due("no train", x.departures(0, 1, 0), 0);
        Check.add(x, 1, 0, 30, 30, 1, 40, 40);
        Check.add(x, 1, 0, 10, 10, 1, 20, 20);
        Check.add(x, 1, 0, 25, 28, 1, 45, 45);
        Check.add(x, 1, 0, 29, 29, 1, 40, 40);
        Check.add(x, 2, 0, 50, 50, 1, 60, 60);
        Check.dueDepartures(x, 0, 1, 10, 30);
        Check.add(x, 1, 0, 50, 50, 5, 51, 51);
        Check.add(x, 1, 5, 56, 56, 1, 57, 57);
        Check.add(x, 1, 0, 0, 0, 1, 1, 1);
        Check.dueDepartures(x, 0, 1, 0, 10, 30, 50);
        x.change(6);
        Check.dueDepartures(x, 0, 1, 0, 10, 30);
        Check.dueDepartures(x, 1, 0);
        Check.due("day 1", x.departures(0, 1, 1), 1);
        int[][] cannot = {
            {0, 0, 0}, {-1, 1, 0}, {12, 1, 0}, {0, -1, 0}, {0, 12, 0}, {0, 1, -1}, {0, 1, 7}, {LEAST, 1, 0},
            {0, MOST, 0}, {0, 1, LEAST}, {0, 1, MOST},
        };
        for (int[] c : cannot) {
            Check.due("departures(" + c[0] + ", " + c[1] + ", " + c[2] + ")", x.departures(c[0], c[1], c[2]), -1);
            Check.due("departure(" + c[0] + ", " + c[1] + ", " + c[2] + ", 0)", x.departure(c[0], c[1], c[2], 0), -1);
        }
    }

    static void promise21Departure() {
        TrainBook x = new TrainBook();
        for (int t = 9; t >= 0; t--) {
            Check.add(x, 1, 3, 10 * t, 10 * t + 1, 4, 100 + t, 100 + t);
        }
        Check.dueDepartures(x, 3, 4, 1, 11, 21, 31, 41, 51, 61, 71, 81, 91);
        Check.due("departure(3, 4, 0, -1)", x.departure(3, 4, 0, -1), -1);
        Check.due("departure(3, 4, 0, LEAST)", x.departure(3, 4, 0, LEAST), -1);
        Check.due("departure(3, 4, 0, MOST)", x.departure(3, 4, 0, MOST), -1);
        x.days(0, 2);
        Check.dueDepartures(x, 3, 4, 1, 11, 21, 31, 41, 51, 61, 71, 81);
        Check.due("departure(3, 4, 1, 0)", x.departure(3, 4, 1, 0), 91);
        Check.due("departure(3, 4, 1, 1)", x.departure(3, 4, 1, 1), -1);
        Check.due("departure(3, 4, 2, 0)", x.departure(3, 4, 2, 0), -1);
    }
}

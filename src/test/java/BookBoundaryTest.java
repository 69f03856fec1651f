import java.util.function.Supplier;

/**
 * The boundary cases of promises 1 to 10, a test for each sentence that names one: a new book, its
 * trains with their stops and days, its signs and CHANGE, and what is read of them.
 */
public final class BookBoundaryTest {
    private static final int LEAST = Check.LEAST;
    private static final int MOST = Check.MOST;
    private static final int[] NO_DAYS = {
        0, -1, -127, -128, LEAST, LEAST + 1, 128, 129, 255, 256, 128 + 127, 1 << 30, MOST,
    };

    public static void main(String[] args) {
        Check.runAll(BookBoundaryTest.class, "promise", 1, 10);
    }

    private static Supplier<TrainBook> bookOf(int... stops) {
        return () -> {
            TrainBook x = new TrainBook();
            Check.add(x, 1, stops);
            return x;
        };
    }

    private static TrainBook bookOfTrains(int count) {
        TrainBook x = new TrainBook();
        for (int t = 0; t < count; t++) {
            x.train(1);
        }
        return x;
    }

    // ---- 1: "No TRAINS, no TABLE."

    static void promise1NoTrains() {
        TrainBook x = new TrainBook();
        Check.due("about(0)", x.about(0), 0);
        for (int t = 0; t < 10; t++) {
            Check.due("about(100 t + 100)", x.about(100 * t + 100), -1);
            Check.due("about(100 t + 101)", x.about(100 * t + 101), -1);
            Check.due("about(100 t + 110)", x.about(100 * t + 110), -1);
            Check.due("stop", x.stop(t, 0, 0, 0), -1);
            Check.due("days", x.days(t, 1), false);
            Check.due("cut", x.cut(t), false);
            Check.due("shift", x.shift(t, 0), false);
            Check.due("signs", x.signs(t, 0), -1);
            Check.due("table", x.table(1 << t), -1);
        }
    }

    static void promise1NoTable() {
        TrainBook x = new TrainBook();
        Check.due("about(2)", x.about(2), 0);
        Check.due("about(3)", x.about(3), 0);
        Check.due("row(0)", x.row(0), -1);
        Check.due("column(0)", x.column(0), -1);
        Check.due("cell(0, 0, 0)", x.cell(0, 0, 0), -3);
        Check.due("cell(0, 0, 1)", x.cell(0, 0, 1), -3);
        Check.due("breaches(0)", x.breaches(0), -1);
        Check.due("breaches(1)", x.breaches(1), -1);
        Check.due("breach(0, 1)", x.breach(0, 1), -1);
        Check.due("lanes()", x.lanes(), -1);
        Check.due("lane(0)", x.lane(0), -1);
    }

    static void promise1NoTableUntilOneIsMade() {
        TrainBook x = new TrainBook();
        Check.line(x, 0, 1, 1, 2);
        Check.due("about(2)", x.about(2), 0);
        Check.due("row(0)", x.row(0), -1);
        Check.due("lanes()", x.lanes(), -1);
        Check.due("breaches(0)", x.breaches(0), -1);
    }

    static void promise1NoWays() {
        for (int day = 0; day < 7; day++) {
            TrainBook x = new TrainBook();
            for (int from = 0; from < 12; from++) {
                for (int to = 0; to < 12; to++) {
                    Check.due("way", x.way(from, to, day, 0, 0), -1);
                    Check.due("departures", x.departures(from, to, day), from == to ? -1 : 0);
                }
            }
        }
    }

    static void promise1ChangeIsFiveAtFirst() {
        TrainBook x = new TrainBook();
        Check.due("about(1)", x.about(1), 5);
        Check.line(x, 0, 10, 1, 20);
        Check.line(x, 1, 25, 2, 30);
        Check.due("five minutes", x.way(0, 2, 0, 0, 0), 30);
        x.shift(1, -1);
        Check.due("four minutes", x.way(0, 2, 0, 0, 0), -1);
    }

    static void promise1NoSignIsToldAtFirst() {
        TrainBook x = bookOfTrains(1);
        for (int days = 1; days <= 127; days++) {
            x.days(0, days);
            Check.due("signs(0, 0) of " + days, x.signs(0, 0), Integer.bitCount(days));
            Check.due("signs(0, 1) of " + days, x.signs(0, 1), days);
        }
    }

    static void promise1OneObjectIsNotAnother() {
        Check.fullBook();
        TrainBook x = new TrainBook();
        Check.due("about(0)", x.about(0), 0);
        Check.due("about(2)", x.about(2), 0);
        Check.due("train(3)", x.train(3), 0);
        Check.due("about(101)", x.about(101), 0);
        Check.due("signs(0, 1)", x.signs(0, 1), 3);
    }

    // ---- 2: "A TRAIN comes: its number."

    static void promise2NumbersFromNoneToNine() {
        TrainBook x = new TrainBook();
        for (int t = 0; t < 10; t++) {
            Check.due("train", x.train(t + 1), t);
            Check.due("about(0)", x.about(0), t + 1);
            Check.due("its days", x.about(100 * t + 100), t + 1);
        }
    }

    static void promise2StopsAreNoneAtFirst() {
        TrainBook x = new TrainBook();
        for (int t = 0; t < 10; t++) {
            x.train(127);
            Check.due("its stops", x.about(100 * t + 101), 0);
            Check.due("its stop 0", x.about(100 * t + 110), -1);
            Check.due("cut", x.cut(t), false);
        }
    }

    static void promise2AllDaysThatCanBe() {
        for (int days = 1; days <= 127; days++) {
            TrainBook x = new TrainBook();
            Check.due("train(" + days + ")", x.train(days), 0);
            Check.due("about(100)", x.about(100), days);
        }
    }

    // "NONE, and nothing is done: DAYS can't be, or there are 10."

    static void promise2NoneForDaysThatCannotBe() {
        for (int days : NO_DAYS) {
            Check.refused("train(" + days + ")", TrainBook::new, x -> x.train(days), -1);
            Check.refused("train(" + days + ")", Check::someBook, x -> x.train(days), -1);
        }
    }

    static void promise2ARefusedTrainTakesNoNumber() {
        TrainBook x = new TrainBook();
        for (int t = 0; t < 10; t++) {
            x.train(0);
            x.train(128);
            Check.due("train(1)", x.train(1), t);
        }
    }

    static void promise2NoneIfThereAreTen() {
        Check.due("the tenth", bookOfTrains(9).train(1), 9);
        for (int days : new int[] {1, 64, 127, 0, 128}) {
            Check.refused("the eleventh", Check::fullBook, x -> x.train(days), -1);
            Check.refused("the eleventh", () -> bookOfTrains(10), x -> x.train(days), -1);
        }
    }

    // ---- 3: "A STOP comes behind the others of TRAIN t: how many it has."

    static void promise3HowManyItHas() {
        TrainBook x = bookOfTrains(10);
        for (int i = 0; i < 7; i++) {
            Check.due("train 0", x.stop(0, i, 2 * i, 2 * i + 1), i + 1);
            Check.due("train 9", x.stop(9, 11 - i, 1427 + 2 * i - 1, 1427 + 2 * i), i + 1);
        }
        for (int i = 0; i < 7; i++) {
            Check.due("in their order", x.about(110 + 10 * i), i);
            Check.due("in their order", x.about(111 + 10 * i), 2 * i);
            Check.due("in their order", x.about(112 + 10 * i), 2 * i + 1);
            Check.due("in their order", x.about(1010 + 10 * i), 11 - i);
        }
    }

    // "NONE, and nothing is done: no such TRAIN, .."

    static void promise3NoneForNoSuchTrain() {
        for (int t : Check.NEVER) {
            Check.refused("stop(" + t + ", ..)", Check::someBook, x -> x.stop(t, 0, 1000, 1000), -1);
        }
        for (int t = 3; t < 12; t++) {
            int train = t;
            Check.refused("stop(" + t + ", ..)", Check::someBook, x -> x.stop(train, 0, 1000, 1000), -1);
        }
        Check.refused("stop(10, ..)", () -> bookOfTrains(10), x -> x.stop(10, 0, 0, 0), -1);
    }

    // ".. STATION, .."

    static void promise3NoneForNoSuchStation() {
        for (int station : Check.NEVER) {
            Check.refused("station " + station, Check::someBook, x -> x.stop(0, station, 1000, 1000), -1);
        }
        Check.refused("station 12", Check::someBook, x -> x.stop(0, 12, 1000, 1000), -1);
        Check.refused("station 13", Check::someBook, x -> x.stop(2, 13, 1000, 1000), -1);
    }

    static void promise3EachStationThatThereIs() {
        for (int station = 0; station < 12; station++) {
            TrainBook x = bookOfTrains(1);
            Check.due("station " + station, x.stop(0, station, 0, 0), 1);
            Check.due("about(110)", x.about(110), station);
        }
    }

    // ".. it stops there already, .."

    static void promise3NoneIfItStopsThereAlready() {
        for (int station = 4; station <= 6; station++) {
            int again = station;
            Check.refused("station " + station, Check::someBook, x -> x.stop(0, again, 1000, 1000), -1);
        }
        Check.refused("the only one", bookOf(11, 0, 0), x -> x.stop(0, 11, 1, 1), -1);
        Check.refused("the first one", bookOf(0, 0, 0, 1, 1, 1), x -> x.stop(0, 0, 2, 2), -1);
    }

    static void promise3AnotherTrainMayStopThere() {
        TrainBook x = bookOfTrains(10);
        for (int t = 0; t < 10; t++) {
            Check.due("train " + t, x.stop(t, 3, 5, 6), 1);
        }
    }

    // ".. there are 7, .."

    static void promise3NoneIfThereAreSeven() {
        Supplier<TrainBook> seven = bookOf(0, 0, 0, 1, 1, 1, 2, 2, 2, 3, 3, 3, 4, 4, 4, 5, 5, 5, 6, 6, 6);
        for (int station = 0; station < 12; station++) {
            int next = station;
            Check.refused("the eighth", seven, x -> x.stop(0, next, 7, 7), -1);
        }
        Check.refused("the eighth", Check::fullBook, x -> x.stop(9, 8, 1400, 1400), -1);
        Supplier<TrainBook> six = bookOf(0, 0, 0, 1, 1, 1, 2, 2, 2, 3, 3, 3, 4, 4, 4, 5, 5, 5);
        Check.due("the seventh", six.get().stop(0, 6, 6, 6), 7);
    }

    // ".. or the minutes can't be."

    static void promise3NoneForMinutesOutsideTheDay() {
        int[][] minutes = {
            {-1, 0}, {-1, -1}, {-1, 5}, {-5, 1439}, {0, 1440}, {1439, 1440}, {1440, 1440}, {1440, 1441}, {LEAST, 0},
            {LEAST, LEAST}, {LEAST, MOST}, {0, MOST}, {MOST, MOST}, {1440, 0}, {0, -1}, {0, LEAST}, {MOST, LEAST},
        };
        for (int[] m : minutes) {
            Check.refused("comes " + m[0] + ", goes " + m[1], () -> bookOfTrains(1), x -> x.stop(0, 0, m[0], m[1]), -1);
            Check.refused("comes " + m[0] + ", goes " + m[1], Check::someBook, x -> x.stop(0, 0, m[0], m[1]), -1);
        }
    }

    static void promise3TheFirstAndLastMinuteCanBe() {
        int[][] minutes = {{0, 0}, {0, 1}, {0, 1439}, {1438, 1439}, {1439, 1439}};
        for (int[] m : minutes) {
            TrainBook x = bookOfTrains(1);
            Check.due("comes " + m[0] + ", goes " + m[1], x.stop(0, 0, m[0], m[1]), 1);
            Check.due("comes", x.about(111), m[0]);
            Check.due("goes", x.about(112), m[1]);
        }
    }

    static void promise3NoneIfItGoesBeforeItComes() {
        int[][] minutes = {{1, 0}, {700, 699}, {1439, 1438}, {1439, 0}};
        for (int[] m : minutes) {
            Check.refused("comes " + m[0] + ", goes " + m[1], () -> bookOfTrains(1), x -> x.stop(0, 0, m[0], m[1]), -1);
        }
    }

    static void promise3ItMayGoWhenItComes() {
        TrainBook x = bookOfTrains(1);
        Check.due("the first", x.stop(0, 0, 7, 7), 1);
        Check.due("the next", x.stop(0, 1, 8, 8), 2);
    }

    static void promise3NoneIfItComesNoLaterThanItWent() {
        for (int comes = 0; comes <= 25; comes++) {
            int in = comes;
            Check.refused("comes " + comes, bookOf(0, 10, 20, 1, 22, 25), x -> x.stop(0, 2, in, 30), -1);
        }
        Check.refused("comes when it goes", bookOf(0, 0, 0), x -> x.stop(0, 1, 0, 0), -1);
        Check.refused("comes when it goes", bookOf(0, 10, 20), x -> x.stop(0, 1, 20, 20), -1);
    }

    static void promise3AMinuteLaterIsEnough() {
        Check.due("comes 21", bookOf(0, 10, 20).get().stop(0, 1, 21, 21), 2);
        Check.due("comes 1", bookOf(0, 0, 0).get().stop(0, 1, 1, 1), 2);
        Check.due("comes 1439", bookOf(0, 0, 1438).get().stop(0, 1, 1439, 1439), 2);
    }

    static void promise3NothingComesBehindTheLastMinute() {
        for (int comes : new int[] {0, 1438, 1439, 1440}) {
            Check.refused("comes " + comes, bookOf(0, 0, 1439), x -> x.stop(0, 1, comes, comes), -1);
        }
    }

    static void promise3TheFirstStopHasNoneAhead() {
        TrainBook x = new TrainBook();
        Check.add(x, 1, 0, 1439, 1439);
        x.train(1);
        Check.due("another train's stop is none ahead", x.stop(1, 0, 0, 0), 1);
    }

    // "(The TABLE stays as it was made.)"

    static void promise3TheTableStays() {
        Check.keepsTable("stop", Check::someBook, x -> x.stop(0, 0, 100, 100));
        Check.keepsTable("stop", Check::someBook, x -> x.stop(1, 0, 100, 100));
        TrainBook x = Check.someBook();
        Check.due("the stop comes", x.stop(0, 0, 100, 100), 4);
        Check.dueRows(x, 4, 5, 6, 4);
        Check.due("no cell of it", x.cell(3, 0, 0), -1);
        Check.due("made anew it has it", x.table(1), 4);
        Check.dueRows(x, 4, 5, 6, 0);
    }

    // ---- 4: "TRAIN t has those DAYS: true; false, and nothing is done, if one can't be."

    static void promise4AllDaysThatCanBe() {
        TrainBook x = bookOfTrains(1);
        for (int days = 127; days >= 1; days--) {
            Check.due("days(0, " + days + ")", x.days(0, days), true);
            Check.due("about(100)", x.about(100), days);
        }
    }

    static void promise4TheSameDaysAgain() {
        Check.keepsAll("days(0, 31)", Check::someBook, x -> Check.bit(x.days(0, 31)));
        Check.due("days(0, 31)", Check.someBook().days(0, 31), true);
    }

    static void promise4FalseForDaysThatCannotBe() {
        for (int days : NO_DAYS) {
            Check.refused("days(0, " + days + ")", Check::someBook, x -> Check.bit(x.days(0, days)), 0);
            Check.refused("days(9, " + days + ")", Check::fullBook, x -> Check.bit(x.days(9, days)), 0);
        }
    }

    static void promise4FalseForNoSuchTrain() {
        for (int t : Check.NEVER) {
            Check.refused("days(" + t + ", 1)", Check::someBook, x -> Check.bit(x.days(t, 1)), 0);
        }
        Check.refused("days(3, 1)", Check::someBook, x -> Check.bit(x.days(3, 1)), 0);
        Check.refused("days(10, 1)", Check::fullBook, x -> Check.bit(x.days(10, 1)), 0);
        Check.refused("days(0, 1)", TrainBook::new, x -> Check.bit(x.days(0, 1)), 0);
        Check.refused("days(3, 0)", Check::someBook, x -> Check.bit(x.days(3, 0)), 0);
    }

    static void promise4OnlyThatTrain() {
        TrainBook x = bookOfTrains(10);
        Check.due("days(9, 64)", x.days(9, 64), true);
        for (int t = 0; t < 9; t++) {
            Check.due("about", x.about(100 * t + 100), 1);
        }
        Check.due("about(1000)", x.about(1000), 64);
    }

    static void promise4TheFirstAndLastDay() {
        TrainBook x = bookOf(0, 0, 0, 1, 1, 1).get();
        x.days(0, 64);
        for (int day = 0; day < 7; day++) {
            Check.due("way on day " + day, x.way(0, 1, day, 0, 0), day == 6 ? 1 : -1);
        }
        x.days(0, 1);
        for (int day = 0; day < 7; day++) {
            Check.due("way on day " + day, x.way(0, 1, day, 0, 0), day == 0 ? 1 : -1);
        }
    }

    // ---- 5: "The last STOP of TRAIN t goes: true; false if there is none such."

    static void promise5FromSevenToNone() {
        TrainBook x = Check.fullBook();
        for (int left = 6; left >= 0; left--) {
            Check.due("cut(3)", x.cut(3), true);
            Check.due("about(401)", x.about(401), left);
            Check.due("the last one is gone", x.about(410 + 10 * left), -1);
            if (left > 0) {
                Check.due("the one ahead stays", x.about(400 + 10 * left), (3 + 5 * (left - 1)) % 12);
                Check.due("the one ahead stays", x.about(401 + 10 * left), 39 + 150 * (left - 1));
                Check.due("the one ahead stays", x.about(402 + 10 * left), 42 + 150 * (left - 1));
            }
        }
        Check.due("cut(3)", x.cut(3), false);
        Check.due("about(401)", x.about(401), 0);
        Check.due("another train's stops", x.about(301), 7);
        Check.due("another train's stops", x.about(501), 7);
    }

    static void promise5FalseWithoutAStop() {
        Check.refused("cut(2)", Check::someBook, x -> Check.bit(x.cut(2)), 0);
        Check.refused("cut(0)", () -> bookOfTrains(1), x -> Check.bit(x.cut(0)), 0);
    }

    static void promise5FalseForNoSuchTrain() {
        for (int t : Check.NEVER) {
            Check.refused("cut(" + t + ")", Check::someBook, x -> Check.bit(x.cut(t)), 0);
        }
        Check.refused("cut(3)", Check::someBook, x -> Check.bit(x.cut(3)), 0);
        Check.refused("cut(10)", Check::fullBook, x -> Check.bit(x.cut(10)), 0);
        Check.refused("cut(0)", TrainBook::new, x -> Check.bit(x.cut(0)), 0);
    }

    static void promise5WhatItTookIsFree() {
        TrainBook x = bookOf(0, 0, 0, 1, 1, 1, 2, 2, 2, 3, 3, 3, 4, 4, 4, 5, 5, 5, 6, 6, 1439).get();
        Check.due("cut(0)", x.cut(0), true);
        Check.due("its place, station and minutes", x.stop(0, 6, 6, 6), 7);
        Check.due("a place once", x.stop(0, 7, 7, 7), -1);
        Check.due("cut(0)", x.cut(0), true);
        Check.due("cut(0)", x.cut(0), true);
        Check.due("a station that stays", x.stop(0, 4, 7, 7), -1);
        Check.due("the minute of the one ahead", x.stop(0, 5, 4, 4), -1);
        Check.due("the minute behind it", x.stop(0, 5, 5, 5), 6);
    }

    static void promise5ALastStopGoesAndTheTableStays() {
        Check.keepsTable("cut", Check::someBook, x -> Check.bit(x.cut(0) && x.cut(0) && x.cut(0) && x.cut(1)));
    }

    static void promise5TheNewLastStopCannotBeBoarded() {
        TrainBook x = bookOf(0, 0, 0, 1, 1, 1, 2, 2, 2).get();
        Check.due("way(1, 2)", x.way(1, 2, 0, 0, 0), 2);
        x.cut(0);
        Check.due("way(1, 2)", x.way(1, 2, 0, 0, 0), -1);
        Check.due("way(0, 2)", x.way(0, 2, 0, 0, 0), -1);
        Check.due("way(0, 1)", x.way(0, 1, 0, 0, 0), 1);
        x.cut(0);
        Check.due("way(0, 1)", x.way(0, 1, 0, 0, 0), -1);
    }

    // ---- 6: "All STOPS of TRAIN t are so many minutes later (earlier, if below 0): true; .."

    private static void dueMinutes(TrainBook x, int... minutes) {
        for (int i = 0; i < minutes.length; i++) {
            int what = 111 + i / 2 * 10 + i % 2;
            Check.due("about(" + what + ")", x.about(what), minutes[i]);
        }
    }

    static void promise6LaterUntilTheLastMinute() {
        TrainBook x = bookOf(0, 10, 12, 1, 20, 1400).get();
        Check.due("shift(0, 39)", x.shift(0, 39), true);
        dueMinutes(x, 49, 51, 59, 1439);
        Check.due("the stations stay", x.about(110), 0);
        Check.due("the stations stay", x.about(120), 1);
    }

    static void promise6EarlierUntilTheFirstMinute() {
        TrainBook x = bookOf(0, 10, 12, 1, 20, 1400).get();
        Check.due("shift(0, -10)", x.shift(0, -10), true);
        dueMinutes(x, 0, 2, 10, 1390);
    }

    static void promise6NoMinutesAtAll() {
        Check.due("shift(0, 0)", Check.someBook().shift(0, 0), true);
        Check.keepsAll("shift(0, 0)", Check::someBook, x -> Check.bit(x.shift(0, 0)));
    }

    static void promise6FromTheFirstMinuteToTheLast() {
        TrainBook x = bookOf(0, 0, 0).get();
        Check.due("shift(0, 1440)", x.shift(0, 1440), false);
        Check.due("shift(0, 1439)", x.shift(0, 1439), true);
        dueMinutes(x, 1439, 1439);
        Check.due("shift(0, -1440)", x.shift(0, -1440), false);
        Check.due("shift(0, -1439)", x.shift(0, -1439), true);
        dueMinutes(x, 0, 0);
    }

    // ".. false, and nothing is done, if one would be beyond."

    static void promise6FalseIfTheLastWouldBeBeyond() {
        for (int minutes : new int[] {40, 41, 1000, 1440, MOST - 1400, MOST - 1399, MOST - 10, MOST}) {
            Check.refused("shift(0, " + minutes + ")", bookOf(0, 10, 12, 1, 20, 1400),
                    x -> Check.bit(x.shift(0, minutes)), 0);
        }
    }

    static void promise6FalseIfTheFirstWouldBeBeyond() {
        for (int minutes : new int[] {-11, -12, -1000, -1440, LEAST, LEAST + 1, LEAST + 10}) {
            Check.refused("shift(0, " + minutes + ")", bookOf(0, 10, 12, 1, 20, 1400),
                    x -> Check.bit(x.shift(0, minutes)), 0);
        }
    }

    static void promise6FalseIfOnlyWhenItComesOrGoesWouldBeBeyond() {
        Check.refused("the first comes", bookOf(0, 0, 100), x -> Check.bit(x.shift(0, -1)), 0);
        Check.refused("the last goes", bookOf(0, 100, 1439), x -> Check.bit(x.shift(0, 1)), 0);
        Check.refused("a whole day", bookOf(0, 0, 1439), x -> Check.bit(x.shift(0, 1)), 0);
        Check.refused("a whole day", bookOf(0, 0, 1439), x -> Check.bit(x.shift(0, -1)), 0);
        Check.due("a whole day", bookOf(0, 0, 1439).get().shift(0, 0), true);
    }

    static void promise6NothingWrapsAround() {
        for (int minutes : new int[] {MOST, MOST - 1439, LEAST, LEAST + 1439, 1 << 30, -(1 << 30)}) {
            Check.refused("shift(0, " + minutes + ")", bookOf(0, 1439, 1439), x -> Check.bit(x.shift(0, minutes)), 0);
            Check.refused("shift(0, " + minutes + ")", bookOf(0, 0, 0), x -> Check.bit(x.shift(0, minutes)), 0);
        }
    }

    static void promise6NoStopNoneBeyond() {
        for (int minutes : new int[] {0, 1, -1, 1440, -1440}) {
            Check.due("shift(2, " + minutes + ")", Check.someBook().shift(2, minutes), true);
            Check.keepsAll("shift(2, " + minutes + ")", Check::someBook, x -> Check.bit(x.shift(2, minutes)));
        }
        TrainBook x = bookOfTrains(1);
        x.shift(0, 1000);
        Check.due("a stop that comes behind is where it was told", x.stop(0, 0, 0, 0), 1);
        dueMinutes(x, 0, 0);
    }

    static void promise6FalseForNoSuchTrain() {
        for (int t : Check.NEVER) {
            Check.refused("shift(" + t + ", 1)", Check::someBook, x -> Check.bit(x.shift(t, 1)), 0);
        }
        Check.refused("shift(3, 0)", Check::someBook, x -> Check.bit(x.shift(3, 0)), 0);
        Check.refused("shift(10, 0)", Check::fullBook, x -> Check.bit(x.shift(10, 0)), 0);
        Check.refused("shift(0, 0)", TrainBook::new, x -> Check.bit(x.shift(0, 0)), 0);
    }

    static void promise6AStopThatWasCutDoesNotCount() {
        TrainBook x = bookOf(0, 10, 10, 1, 1439, 1439).get();
        Check.due("shift(0, 1)", x.shift(0, 1), false);
        x.cut(0);
        Check.due("shift(0, 1429)", x.shift(0, 1429), true);
        dueMinutes(x, 1439, 1439);
    }

    static void promise6OnlyThatTrainAndNotTheTable() {
        Check.keepsTable("shift", Check::someBook, x -> Check.bit(x.shift(0, 100) && x.shift(1, -50)));
        TrainBook x = Check.someBook();
        x.shift(1, 5);
        dueMinutes(x, 10, 12, 20, 25, 40, 41);
        Check.due("about(211)", x.about(211), 65);
        Check.due("about(222)", x.about(222), 95);
    }

    // ---- 7: "SIGN i (7 .. 12) is told as that set (0: none): true; .."

    static void promise7FromTheSeventhToTheTwelfth() {
        for (int i = 7; i <= 12; i++) {
            TrainBook x = new TrainBook();
            x.train(127);
            Check.due("sign(" + i + ", 127)", x.sign(i, 127), true);
            Check.due("signs(0, 0)", x.signs(0, 0), 1);
            Check.due("signs(0, 1)", x.signs(0, 1), 1 << i);
        }
    }

    static void promise7AllSetsThatCanBe() {
        TrainBook x = bookOfTrains(1);
        for (int set = 1; set <= 127; set++) {
            x.days(0, set);
            Check.due("sign(12, " + set + ")", x.sign(12, set), true);
            Check.due("signs(0, 1)", x.signs(0, 1), Integer.bitCount(set) == 1 ? set : 1 << 12);
        }
    }

    static void promise7NoneTakesItBack() {
        TrainBook x = new TrainBook();
        x.train(3);
        x.sign(7, 3);
        Check.due("signs(0, 1)", x.signs(0, 1), 128);
        Check.due("sign(7, 0)", x.sign(7, 0), true);
        Check.due("signs(0, 1)", x.signs(0, 1), 3);
        Check.due("sign(7, 0) again", x.sign(7, 0), true);
        Check.due("sign(8, 0), never told", x.sign(8, 0), true);
        Check.due("signs(0, 1)", x.signs(0, 1), 3);
    }

    static void promise7TheNewSetIsInPlaceOfTheOldOne() {
        TrainBook x = new TrainBook();
        x.train(7);
        x.sign(7, 3);
        x.sign(7, 4);
        Check.due("signs(0, 1)", x.signs(0, 1), 7);
    }

    // ".. false, and nothing is done, if one can't be."

    static void promise7FalseForNoSuchSign() {
        for (int i : Check.NEVER) {
            Check.refused("sign(" + i + ", 31)", Check::someBook, x -> Check.bit(x.sign(i, 31)), 0);
        }
        for (int i : new int[] {0, 1, 5, 6, 13, 14, 39, 44}) {
            Check.refused("sign(" + i + ", 127)", Check::someBook, x -> Check.bit(x.sign(i, 127)), 0);
            Check.refused("sign(" + i + ", 0)", Check::someBook, x -> Check.bit(x.sign(i, 0)), 0);
        }
    }

    static void promise7FalseForASetThatCannotBe() {
        for (int set : NO_DAYS) {
            if (set != 0) {
                Check.refused("sign(7, " + set + ")", Check::someBook, x -> Check.bit(x.sign(7, set)), 0);
                Check.refused("sign(12, " + set + ")", Check::fullBook, x -> Check.bit(x.sign(12, set)), 0);
            }
        }
    }

    // ---- 8: "CHANGE is so many minutes: true; false likewise."

    static void promise8AllMinutesThatCanBe() {
        TrainBook x = new TrainBook();
        for (int minutes = 60; minutes >= 0; minutes--) {
            Check.due("change(" + minutes + ")", x.change(minutes), true);
            Check.due("about(1)", x.about(1), minutes);
            Check.due("the same again", x.change(minutes), true);
        }
    }

    static void promise8FalseForMinutesThatCannotBe() {
        for (int minutes : Check.NEVER) {
            Check.refused("change(" + minutes + ")", Check::someBook, x -> Check.bit(x.change(minutes)), 0);
        }
        Check.refused("change(61)", Check::someBook, x -> Check.bit(x.change(61)), 0);
        Check.refused("change(62)", Check::fullBook, x -> Check.bit(x.change(62)), 0);
        Check.refused("change(-1)", TrainBook::new, x -> Check.bit(x.change(-1)), 0);
    }

    // ---- 9: "What 0 TRAINS, 1 CHANGE, 2 ROWS of the TABLE, 3 its COLUMNS (0, 0 without one); .."

    static void promise9NoRowsNorColumnsWithoutATable() {
        TrainBook x = bookOf(0, 0, 0, 1, 1, 1).get();
        Check.due("about(2)", x.about(2), 0);
        Check.due("about(3)", x.about(3), 0);
        x.table(2);
        Check.due("about(2) behind a refused one", x.about(2), 0);
        Check.due("about(3) behind a refused one", x.about(3), 0);
        x.table(1);
        Check.due("about(2)", x.about(2), 2);
        Check.due("about(3)", x.about(3), 1);
    }

    static void promise9TheTrainsFromNoneToTen() {
        for (int count = 0; count <= 10; count++) {
            Check.due("about(0)", bookOfTrains(count).about(0), count);
        }
        TrainBook x = bookOfTrains(10);
        x.train(1);
        Check.due("about(0)", x.about(0), 10);
    }

    // ".. of TRAIN t 100 t + 100 its DAYS, + 101 how many STOPS; 100 t + 110 + 10 i, + 111, + 112: its STOP i's .."

    static void promise9TheFirstAndLastTrain() {
        TrainBook x = Check.fullBook();
        Check.due("about(100)", x.about(100), 127);
        Check.due("about(101)", x.about(101), 7);
        Check.due("about(1000)", x.about(1000), 118);
        Check.due("about(1001)", x.about(1001), 7);
    }

    static void promise9TheFirstAndLastStop() {
        TrainBook x = Check.fullBook();
        Check.due("about(110)", x.about(110), 0);
        Check.due("about(111)", x.about(111), 0);
        Check.due("about(112)", x.about(112), 0);
        Check.due("about(170)", x.about(170), 6);
        Check.due("about(171)", x.about(171), 900);
        Check.due("about(172)", x.about(172), 900);
        Check.due("about(1070)", x.about(1070), 3);
        Check.due("about(1071)", x.about(1071), 1017);
        Check.due("about(1072)", x.about(1072), 1026);
    }

    // "NONE if there is none such."

    static void promise9NoneForAnotherWhatOfTheBook() {
        TrainBook x = Check.fullBook();
        for (int what = 4; what < 100; what++) {
            Check.due("about(" + what + ")", x.about(what), -1);
        }
        for (int what = -200; what < 0; what++) {
            Check.due("about(" + what + ")", x.about(what), -1);
        }
        for (int what : Check.NEVER) {
            Check.due("about(" + what + ")", x.about(what), -1);
        }
    }

    static void promise9NoneForAnotherWhatOfATrain() {
        for (int t = 0; t < 10; t += 3) {
            TrainBook x = Check.fullBook();
            for (int part = 2; part < 100; part++) {
                if (part < 10 || part % 10 > 2 || part > 72) {
                    int what = 100 * t + 100 + part;
                    Check.due("about(" + what + ")", x.about(what), -1);
                }
            }
        }
    }

    static void promise9NoneForNoSuchTrain() {
        TrainBook x = Check.someBook();
        for (int what = 400; what < 1600; what += 10) {
            Check.due("about(" + what + ")", x.about(what), -1);
            Check.due("about(" + (what + 1) + ")", x.about(what + 1), -1);
        }
        TrainBook full = Check.fullBook();
        for (int what = 1100; what < 1200; what++) {
            Check.due("about(" + what + ")", full.about(what), -1);
        }
    }

    static void promise9NoneForNoSuchStop() {
        TrainBook x = Check.someBook();
        for (int k = 0; k < 3; k++) {
            Check.due("the third of three", x.about(130 + k) == -1, false);
            Check.due("the fourth of three", x.about(140 + k), -1);
            Check.due("the second of two", x.about(220 + k) == -1, false);
            Check.due("the third of two", x.about(230 + k), -1);
            Check.due("the first of none", x.about(310 + k), -1);
        }
        x.cut(0);
        for (int k = 0; k < 3; k++) {
            Check.due("the one that was cut", x.about(130 + k), -1);
        }
    }

    // ---- 10: "The SIGNS of TRAIN t: what 0 how many, 1 the set as a number."

    private static TrainBook signBook(int days, int... told) {
        TrainBook x = new TrainBook();
        x.train(days);
        for (int i = 0; i < told.length; i++) {
            x.sign(7 + i, told[i]);
        }
        return x;
    }

    private static void dueSigns(String name, TrainBook x, int set) {
        Check.due(name + ": signs(0, 0)", x.signs(0, 0), Integer.bitCount(set));
        Check.due(name + ": signs(0, 1)", x.signs(0, 1), set);
    }

    static void promise10FromOneSignToSeven() {
        dueSigns("the first day", signBook(1), 1);
        dueSigns("the last day", signBook(64), 64);
        dueSigns("all days", signBook(127), 127);
        dueSigns("all days told", signBook(127, 0, 0, 0, 0, 0, 127), 1 << 12);
    }

    static void promise10AllToldSignsTogether() {
        dueSigns("six that are told and a day", signBook(127, 3, 6, 12, 24, 48, 96), 1 << 7 | 1 << 9 | 1 << 11 | 64);
        dueSigns("single days for single days", signBook(63, 1, 2, 4, 8, 16, 32), 63);
    }

    static void promise10JustItsDays() {
        dueSigns("a day too many", signBook(62, 127, 63, 126), 62);
        dueSigns("a day too few", signBook(63, 62), 1 << 7 | 1);
        dueSigns("just its days", signBook(62, 127, 62), 1 << 8);
        dueSigns("two may have a day in common", signBook(31, 7, 28), 1 << 7 | 1 << 8);
        dueSigns("all days but one", signBook(126, 127, 127, 127, 127, 127, 127), 126);
    }

    static void promise10TheFewest() {
        dueSigns("two before three", signBook(63, 3, 12, 48, 7, 56), 1 << 10 | 1 << 11);
        dueSigns("one before two", signBook(63, 7, 56, 0, 0, 0, 63), 1 << 12);
        dueSigns("one told before two days", signBook(3, 0, 0, 0, 0, 0, 3), 1 << 12);
    }

    static void promise10OfTheFewestTheLeast() {
        dueSigns("of two alike", signBook(3, 0, 3, 3), 1 << 8);
        dueSigns("the single day", signBook(2, 2), 2);
        dueSigns("a single day and a sign", signBook(7, 3, 6, 5), 1 << 7 | 4);
        dueSigns("the greatest sign counts first", signBook(15, 3, 6, 12, 8, 7), 1 << 7 | 1 << 9);
        dueSigns("then the next one", signBook(7, 4, 3, 4), 1 << 8 | 4);
    }

    static void promise10ASignToldAsNoneIsNotNeeded() {
        dueSigns("none told", signBook(5, 0, 0, 0, 0, 0, 0), 5);
    }

    // "NONE likewise."

    static void promise10NoneForNoSuchTrain() {
        for (int t : Check.NEVER) {
            Check.due("signs(" + t + ", 0)", Check.someBook().signs(t, 0), -1);
            Check.due("signs(" + t + ", 1)", Check.someBook().signs(t, 1), -1);
        }
        Check.due("signs(2, 0)", Check.someBook().signs(2, 0), 2);
        Check.due("signs(3, 0)", Check.someBook().signs(3, 0), -1);
        Check.due("signs(9, 0)", Check.fullBook().signs(9, 0), 3);
        Check.due("signs(10, 0)", Check.fullBook().signs(10, 0), -1);
    }

    static void promise10NoneForAnotherWhat() {
        for (int what : Check.NEVER) {
            Check.due("signs(0, " + what + ")", Check.someBook().signs(0, what), -1);
        }
        for (int what = 2; what < 14; what++) {
            Check.due("signs(0, " + what + ")", Check.someBook().signs(0, what), -1);
        }
    }
}

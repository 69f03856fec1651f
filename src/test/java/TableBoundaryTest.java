import java.util.function.Supplier;

/**
 * The boundary cases of promises 11 to 18, a test for each sentence that names one: the table, its
 * rows, columns and cells, its breaches and lanes.
 */
public final class TableBoundaryTest {
    private static final int LEAST = Check.LEAST;
    private static final int MOST = Check.MOST;

    public static void main(String[] args) {
        Check.runAll(TableBoundaryTest.class, "promise", 11, 18);
    }

    /** Trains with the stations told by letters, 'a' for 0, one minute apart, each train 20 later. */
    private static TrainBook trainsOf(String... stations) {
        TrainBook x = new TrainBook();
        for (int t = 0; t < stations.length; t++) {
            x.train(1);
            for (int i = 0; i < stations[t].length(); i++) {
                int minute = 20 * t + i;
                Check.due("stop", x.stop(t, stations[t].charAt(i) - 'a', minute, minute), i + 1);
            }
        }
        return x;
    }

    private static TrainBook tableOf(String... stations) {
        TrainBook x = trainsOf(stations);
        x.table((1 << stations.length) - 1);
        return x;
    }

    private static String rowsOf(TrainBook x) {
        StringBuilder rows = new StringBuilder();
        for (int i = 0; i < x.about(2); i++) {
            rows.append((char) ('a' + x.row(i)));
        }
        return rows.toString();
    }

    private static void dueText(String name, String got, String want) {
        Check.due(name + " is " + got + ", should be " + want + ": equal", got.equals(want), true);
    }

    /** Ten trains of two stops, all alike. */
    private static TrainBook tenTrains() {
        return trainsOf("ab", "ab", "ab", "ab", "ab", "ab", "ab", "ab", "ab", "ab");
    }

    // ---- 11: "The TABLE is made of the TRAINS of a set (TRAIN t counts 2 to the t): how many ROWS."

    static void promise11OneTrain() {
        for (int t = 0; t < 10; t++) {
            TrainBook x = tenTrains();
            Check.due("table", x.table(1 << t), 2);
            Check.dueColumns(x, t);
        }
    }

    static void promise11SixTrains() {
        TrainBook x = tenTrains();
        Check.due("the first six", x.table(0b0000111111), 2);
        Check.dueColumns(x, 0, 1, 2, 3, 4, 5);
        Check.due("the last six", x.table(0b1111110000), 2);
        Check.dueColumns(x, 4, 5, 6, 7, 8, 9);
        Check.due("the first and the last", x.table(0b1000000001), 2);
        Check.dueColumns(x, 0, 9);
    }

    static void promise11TheFewestRowsThatThereCanBe() {
        Check.due("two stops", trainsOf("la").table(1), 2);
        Check.due("seven stops", trainsOf("lkjihgf").table(1), 7);
        Check.due("six trains alike", trainsOf("abcdefg", "abcdefg", "abcdefg", "abcdefg", "abcdefg", "abcdefg").table(63), 7);
    }

    static void promise11ManyRows() {
        TrainBook back = tableOf("abcdefg", "gfedcba");
        dueText("there and back", rowsOf(back), "abcdefgfedcba");
        TrainBook apart = tableOf("ab", "cd", "ef", "gh", "ij", "kl");
        dueText("six that never meet", rowsOf(apart), "abcdefghijkl");
        TrainBook turned = tableOf("abcdef", "bcdefa", "cdefab", "defabc", "efabcd", "fabcde");
        dueText("six that turn", rowsOf(turned), "abcdefabcde");
    }

    // "NONE, and it stays: that can't be."

    static void promise11NoneForNoTrains() {
        Check.refused("table(0)", Check::someBook, x -> x.table(0), -1);
        Check.refused("table(0)", Check::fullBook, x -> x.table(0), -1);
        Check.refused("table(0)", TrainBook::new, x -> x.table(0), -1);
    }

    static void promise11NoneBelowNothing() {
        for (int set : new int[] {-1, -2, -1024, LEAST, LEAST + 1, LEAST + 3, -1 << 10}) {
            Check.refused("table(" + set + ")", Check::someBook, x -> x.table(set), -1);
            Check.refused("table(" + set + ")", Check::fullBook, x -> x.table(set), -1);
        }
    }

    static void promise11NoneForATrainThatThereIsNot() {
        Supplier<TrainBook> two = () -> tableOf("ab", "cd");
        for (int t = 2; t < 31; t++) {
            int other = 1 << t;
            Check.refused("table(" + other + ")", two, x -> x.table(other), -1);
            Check.refused("table(" + (other + 3) + ")", two, x -> x.table(other + 3), -1);
        }
        Check.refused("table(1024)", Check::fullBook, x -> x.table(1024), -1);
        Check.refused("table(1025)", Check::fullBook, x -> x.table(1025), -1);
        Check.refused("table(MOST)", Check::fullBook, x -> x.table(MOST), -1);
        Check.refused("table(1)", TrainBook::new, x -> x.table(1), -1);
    }

    static void promise11NoneForMoreThanSix() {
        for (int set : new int[] {0b1111111, 0b1111111000, 0b1011111101, 0b0111111111, 0b1111111111}) {
            Check.refused("table(" + set + ")", Check::fullBook, x -> x.table(set), -1);
            Check.refused("table(" + set + ")", TableBoundaryTest::tenTrains, x -> x.table(set), -1);
        }
    }

    static void promise11NoneForATrainOfFewerThanTwoStops() {
        Supplier<TrainBook> book = () -> {
            TrainBook x = trainsOf("abc", "a", "", "cb");
            x.table(1);
            return x;
        };
        for (int set : new int[] {0b0010, 0b0100, 0b0011, 0b0101, 0b1010, 0b1110, 0b1111, 0b0110}) {
            Check.refused("table(" + set + ")", book, x -> x.table(set), -1);
        }
        Check.due("of those that have two", book.get().table(0b1001), 4);
    }

    static void promise11ATrainThatComesToTwoStopsOrIsCut() {
        TrainBook x = trainsOf("a");
        Check.due("one stop", x.table(1), -1);
        x.stop(0, 1, 5, 5);
        Check.due("two stops", x.table(1), 2);
        x.cut(0);
        Check.due("one stop again", x.table(1), -1);
        Check.dueRows(x, 0, 1);
        Check.due("what it had then", x.cell(1, 0, 0), 5);
    }

    static void promise11WithoutOneItStaysNone() {
        TrainBook x = trainsOf("a", "ab");
        x.table(1);
        x.table(0);
        x.table(4);
        Check.due("about(2)", x.about(2), 0);
        Check.due("about(3)", x.about(3), 0);
        Check.due("lanes()", x.lanes(), -1);
        Check.due("breaches(0)", x.breaches(0), -1);
    }

    static void promise11TheNewOneIsInPlaceOfTheOldOne() {
        TrainBook x = trainsOf("abcdefg", "gfedcba", "kl");
        Check.due("table(7)", x.table(7), 15);
        Check.due("table(4)", x.table(4), 2);
        Check.dueRows(x, 10, 11);
        Check.dueColumns(x, 2);
        for (int i = 2; i < 15; i++) {
            Check.due("row(" + i + ")", x.row(i), -1);
            Check.due("cell(" + i + ", 0, 0)", x.cell(i, 0, 0), -3);
        }
        Check.due("lane(1)", x.lane(1), -1);
        Check.due("breach(0, 1)", x.breach(0, 1), -1);
        Check.due("table(3)", x.table(3), 13);
        Check.due("table(7)", x.table(7), 15);
    }

    // "(It keeps what it had then, whatever TRAINS become.)"

    static void promise11ItKeepsWhatItHad() {
        Check.keepsTable("stop", Check::someBook, x -> x.stop(0, 11, 200, 210));
        Check.keepsTable("cut", Check::someBook, x -> Check.bit(x.cut(0) && x.cut(1)));
        Check.keepsTable("shift", Check::someBook, x -> Check.bit(x.shift(0, 77) && x.shift(1, -7)));
        Check.keepsTable("days", Check::someBook, x -> Check.bit(x.days(0, 1) && x.days(1, 2)));
        Check.keepsTable("train", Check::someBook, x -> x.train(1));
        Check.keepsTable("sign", Check::someBook, x -> Check.bit(x.sign(7, 1)));
        Check.keepsTable("change", Check::someBook, x -> Check.bit(x.change(60)));
        Check.keepsTable("way", Check::fullBook, x -> x.way(0, 5, 0, 0, 10));
        Check.keepsTable("departures", Check::fullBook, x -> x.departures(0, 5, 0));
        Check.keepsTable("cut and stop anew", Check::fullBook, x -> {
            x.cut(0);
            x.cut(0);
            return x.stop(0, 11, 1300, 1300);
        });
    }

    // ---- 12: "The STATION of ROW i; NONE if there is none such."

    static void promise12TheFirstAndLastRow() {
        TrainBook x = tableOf("lab");
        Check.due("row(0)", x.row(0), 11);
        Check.due("row(2)", x.row(2), 1);
        Check.due("row(3)", x.row(3), -1);
        Check.due("row(-1)", x.row(-1), -1);
    }

    static void promise12NoneForNoSuchRow() {
        TrainBook x = tableOf("ab");
        for (int i : Check.NEVER) {
            Check.due("row(" + i + ")", x.row(i), -1);
        }
        for (int i = 2; i < 100; i++) {
            Check.due("row(" + i + ")", x.row(i), -1);
        }
    }

    static void promise12NoneWithoutATable() {
        TrainBook x = trainsOf("ab");
        for (int i = -1; i < 43; i++) {
            Check.due("row(" + i + ")", x.row(i), -1);
        }
    }

    // the term ROWS: "a row of STATIONS (one may come again) .. the shortest one; of several the first .."

    static void promise12AStationMayComeAgain() {
        dueText("rows", rowsOf(tableOf("ab", "ba")), "aba");
        dueText("rows", rowsOf(tableOf("abc", "cba")), "abcba");
        dueText("rows", rowsOf(tableOf("ba", "cb", "ac")), "acba");
    }

    static void promise12TheShortestBeforeTheFirst() {
        dueText("rows", rowsOf(tableOf("ba", "cb")), "cba");
        dueText("rows", rowsOf(tableOf("ba", "cba")), "cba");
        dueText("rows", rowsOf(tableOf("bcd", "abd", "ab")), "abcd");
        dueText("rows", rowsOf(tableOf("abc", "bca")), "abca");
    }

    static void promise12OfSeveralTheFirst() {
        dueText("rows", rowsOf(tableOf("kl", "ab")), "abkl");
        dueText("rows", rowsOf(tableOf("ad", "bd", "cd")), "abcd");
        dueText("rows", rowsOf(tableOf("dc", "db", "da")), "dabc");
        dueText("rows", rowsOf(tableOf("cba", "abc")), "abcba");
        dueText("rows", rowsOf(tableOf("ca", "cb", "dc")), "dcab");
    }

    // ---- 13: "The TRAIN of COLUMN i; NONE if there is none such."

    static void promise13NoneForNoSuchColumn() {
        TrainBook six = Check.fullBook();
        for (int i : Check.NEVER) {
            Check.due("column(" + i + ")", six.column(i), -1);
        }
        Check.due("column(5)", six.column(5) == -1, false);
        Check.due("column(6)", six.column(6), -1);
        Check.due("column(7)", six.column(7), -1);
        TrainBook one = tableOf("ab");
        Check.due("column(0)", one.column(0), 0);
        Check.due("column(1)", one.column(1), -1);
    }

    static void promise13NoneWithoutATable() {
        TrainBook x = trainsOf("ab", "cd");
        for (int i = -1; i < 8; i++) {
            Check.due("column(" + i + ")", x.column(i), -1);
        }
    }

    // the term COLUMNS: "The order has the fewest BREACHES; of several it is the first by the TRAINS .."

    static void promise13TheFirstOfSeveralOrders() {
        TrainBook apart = tableOf("kl", "ij", "gh", "ef", "cd", "ab");
        Check.dueColumns(apart, 0, 1, 2, 3, 4, 5);
        TrainBook alike = tenTrains();
        for (int t = 1; t < 10; t++) {
            alike.shift(t, -20 * t);
        }
        alike.table(0b1110101001);
        Check.dueColumns(alike, 0, 3, 5, 7, 8, 9);
        Check.due("breaches(0)", alike.breaches(0), 0);
    }

    static void promise13TheFewestBeforeTheFirst() {
        TrainBook x = trainsOf("ab", "ab", "ab", "ab", "ab", "ab");
        for (int t = 0; t < 6; t++) {
            x.shift(t, 100 - 40 * t + 150);
        }
        x.table(63);
        Check.dueColumns(x, 5, 4, 3, 2, 1, 0);
        Check.due("breaches(0)", x.breaches(0), 0);
    }

    static void promise13OneThatMustStandBehindMovesAsLittleAsItCan() {
        TrainBook x = new TrainBook();
        Check.line(x, 0, 50, 1, 60);
        Check.line(x, 4, 10, 5, 20);
        Check.line(x, 0, 30, 1, 40);
        x.table(7);
        Check.dueColumns(x, 1, 2, 0);
    }

    // ---- 14: "The CELL of ROW i, COLUMN j: what 0 the minute at which it COMES, 1 GOES: -1 BLANK, -2 PAST."

    /** Rows a b c d e; train 0 in column 0 at all, train 1 in column 1 at b and d. */
    private static TrainBook cellBook() {
        TrainBook x = new TrainBook();
        Check.add(x, 1, 0, 0, 0, 1, 1, 2, 2, 3, 3, 3, 4, 5, 4, 1438, 1439);
        Check.add(x, 1, 1, 10, 11, 3, 12, 1439);
        x.table(3);
        return x;
    }

    static void promise14TheFirstAndLastMinute() {
        TrainBook x = cellBook();
        Check.dueColumns(x, 0, 1);
        Check.due("comes", x.cell(0, 0, 0), 0);
        Check.due("goes", x.cell(0, 0, 1), 0);
        Check.due("comes", x.cell(4, 0, 0), 1438);
        Check.due("goes", x.cell(4, 0, 1), 1439);
        Check.due("comes", x.cell(3, 1, 0), 12);
        Check.due("goes, at a last stop too", x.cell(3, 1, 1), 1439);
    }

    static void promise14BlankAheadOfTheFirstAndBehindTheLast() {
        TrainBook x = cellBook();
        for (int what = 0; what < 2; what++) {
            Check.due("ahead", x.cell(0, 1, what), -1);
            Check.due("behind", x.cell(4, 1, what), -1);
        }
        TrainBook apart = tableOf("ab", "cd");
        for (int what = 0; what < 2; what++) {
            Check.due("the next row", apart.cell(2, 0, what), -1);
            Check.due("the last row", apart.cell(3, 0, what), -1);
            Check.due("the first row", apart.cell(0, 1, what), -1);
            Check.due("the row ahead", apart.cell(1, 1, what), -1);
        }
    }

    static void promise14PastBetweenTwoStops() {
        TrainBook x = cellBook();
        Check.due("comes", x.cell(2, 1, 0), -2);
        Check.due("goes", x.cell(2, 1, 1), -2);
        TrainBook far = tableOf("abcdefg", "ag");
        for (int i = 1; i < 6; i++) {
            Check.due("row " + i, far.cell(i, 1, 0), -2);
        }
        Check.due("its first", far.cell(0, 1, 0), 20);
        Check.due("its last", far.cell(6, 1, 0), 21);
    }

    static void promise14TheFirstRowBehindThatHasItsStation() {
        TrainBook x = tableOf("ab", "ba");
        dueText("rows", rowsOf(x), "aba");
        Check.due("its first stop at the first such row", x.cell(0, 0, 0), 0);
        Check.due("BLANK at its own station behind", x.cell(2, 0, 0), -1);
        Check.due("BLANK at its own station ahead", x.cell(0, 1, 0), -1);
        Check.due("behind its first", x.cell(2, 1, 0), 21);
        TrainBook past = tableOf("abc", "bac");
        dueText("rows", rowsOf(past), "abac");
        Check.due("PAST at its own station", past.cell(2, 0, 0), -2);
        TrainBook behind = tableOf("abc", "ca");
        dueText("rows", rowsOf(behind), "abca");
        Check.due("its last stop behind its first", behind.cell(3, 1, 0), 21);
        Check.due("BLANK ahead of its first", behind.cell(0, 1, 0), -1);
    }

    static void promise14NothingOfAnEarlierTable() {
        TrainBook x = trainsOf("abc", "ad", "abcd");
        x.table(0b001);
        x.table(0b110);
        Check.dueColumns(x, 1, 2);
        Check.due("its first", x.cell(0, 0, 0), 20);
        Check.due("PAST", x.cell(1, 0, 0), -2);
        Check.due("PAST", x.cell(2, 0, 0), -2);
        Check.due("its last", x.cell(3, 0, 0), 21);
    }

    // "NONE - 2 if there is none such, or another what."

    static void promise14NoneLessTwoForNoSuchRow() {
        for (int what = 0; what < 2; what++) {
            TrainBook x = cellBook();
            for (int i : Check.NEVER) {
                Check.due("cell(" + i + ", 0, what)", x.cell(i, 0, what), -3);
            }
            for (int i = 5; i < 50; i++) {
                Check.due("cell(" + i + ", 0, what)", x.cell(i, 0, what), -3);
                Check.due("cell(" + i + ", 1, what)", x.cell(i, 1, what), -3);
            }
        }
    }

    static void promise14NoneLessTwoForNoSuchColumn() {
        TrainBook x = cellBook();
        for (int j : Check.NEVER) {
            Check.due("cell(0, " + j + ", 0)", x.cell(0, j, 0), -3);
        }
        for (int j = 2; j < 12; j++) {
            Check.due("cell(0, " + j + ", 0)", x.cell(0, j, 0), -3);
        }
        TrainBook six = Check.fullBook();
        Check.due("column 5", six.cell(0, 5, 0) == -3, false);
        Check.due("column 6", six.cell(0, 6, 0), -3);
    }

    static void promise14NoneLessTwoForAnotherWhat() {
        TrainBook x = cellBook();
        for (int what : Check.NEVER) {
            Check.due("a stop", x.cell(0, 0, what), -3);
            Check.due("BLANK", x.cell(0, 1, what), -3);
            Check.due("PAST", x.cell(2, 1, what), -3);
        }
        for (int what = 2; what < 12; what++) {
            Check.due("a stop", x.cell(0, 0, what), -3);
            Check.due("BLANK", x.cell(0, 1, what), -3);
        }
    }

    static void promise14NoneLessTwoWithoutATable() {
        TrainBook x = trainsOf("ab");
        for (int i = 0; i < 3; i++) {
            for (int j = 0; j < 3; j++) {
                Check.due("cell", x.cell(i, j, 0), -3);
                Check.due("cell", x.cell(i, j, 1), -3);
            }
        }
    }

    // ---- 15: "How many BREACHES the TABLE has (what 0), KNOTS (1)."

    private static void dueBreaches(String name, TrainBook x, int breaches, int knots) {
        Check.due(name + ": breaches(0)", x.breaches(0), breaches);
        Check.due(name + ": breaches(1)", x.breaches(1), knots);
    }

    /** Two trains that meet at station 0 alone, where they go at these minutes. */
    private static TrainBook meetingAt(int first, int second) {
        TrainBook x = new TrainBook();
        Check.line(x, 0, first, 1, 1000);
        Check.line(x, 0, second, 2, 1000);
        x.table(3);
        return x;
    }

    static void promise15NoneOfOneTrain() {
        dueBreaches("one train", tableOf("ab"), 0, 0);
        dueBreaches("one of seven stops", tableOf("abcdefg"), 0, 0);
    }

    /** Six trains of which each overtakes all that begin ahead of it. */
    private static TrainBook sixKnotted() {
        TrainBook x = new TrainBook();
        for (int t = 0; t < 6; t++) {
            Check.line(x, 0, 10 + t, 1, 100 - t);
        }
        x.table(63);
        return x;
    }

    static void promise15ATableMadeAnewIsCountedAnew() {
        TrainBook x = sixKnotted();
        x.table(1);
        dueBreaches("one", x, 0, 0);
        x.table(63);
        x.table(3);
        dueBreaches("two", x, 1, 1);
        x.table(0);
        dueBreaches("it stays", x, 1, 1);
    }

    static void promise15AllOfSixTrains() {
        TrainBook x = sixKnotted();
        dueBreaches("six that overtake one another", x, 15, 15);
        Check.dueColumns(x, 0, 1, 2, 3, 4, 5);
        for (int i = 0; i < 6; i++) {
            for (int j = i + 1; j < 6; j++) {
                Check.due("breach(" + i + ", " + j + ")", x.breach(i, j), 1);
            }
        }
    }

    static void promise15TheSameMinuteIsNotEarlier() {
        dueBreaches("the same minute", meetingAt(10, 10), 0, 0);
        Check.dueColumns(meetingAt(10, 10), 0, 1);
        Check.dueColumns(meetingAt(10, 11), 0, 1);
        Check.dueColumns(meetingAt(11, 10), 1, 0);
        dueBreaches("a minute earlier", meetingAt(11, 10), 0, 0);
        TrainBook alike = trainsOf("abcdefg", "abcdefg");
        alike.shift(1, -20);
        alike.table(3);
        dueBreaches("all minutes alike", alike, 0, 0);
    }

    static void promise15NoStationInCommon() {
        dueBreaches("no station in common", tableOf("ab", "cd", "ef"), 0, 0);
    }

    static void promise15ALastStopCountsWhenItComes() {
        TrainBook x = new TrainBook();
        Check.add(x, 1, 0, 0, 0, 5, 20, 100);
        Check.add(x, 1, 1, 5, 5, 5, 10, 30, 2, 40, 40);
        Check.add(x, 1, 3, 0, 0, 5, 20, 20);
        Check.add(x, 1, 4, 0, 0, 5, 19, 1439);
        x.table(0b0011);
        Check.dueColumns(x, 0, 1);
        dueBreaches("comes 20, goes 30", x, 0, 0);
        x.table(0b0101);
        Check.dueColumns(x, 0, 2);
        dueBreaches("comes 20, comes 20", x, 0, 0);
        x.table(0b1001);
        Check.dueColumns(x, 3, 0);
        dueBreaches("comes 20, comes 19", x, 0, 0);
        x.stop(0, 6, 200, 200);
        x.table(0b0011);
        Check.dueColumns(x, 1, 0);
        dueBreaches("no last stop any more: goes 100, goes 30", x, 0, 0);
    }

    static void promise15AFirstStopCountsWhenItGoes() {
        TrainBook x = new TrainBook();
        Check.add(x, 1, 5, 0, 40, 1, 50, 50);
        Check.add(x, 1, 5, 30, 35, 2, 60, 60);
        x.table(3);
        Check.dueColumns(x, 1, 0);
        dueBreaches("goes 40, goes 35", x, 0, 0);
    }

    static void promise15AKnotIsCountedOnce() {
        TrainBook x = new TrainBook();
        Check.line(x, 0, 10, 1, 50, 2, 60, 3, 90);
        Check.line(x, 0, 20, 1, 40, 2, 70, 3, 80);
        x.table(3);
        dueBreaches("overtaken twice", x, 1, 1);
    }

    static void promise15WhicheverRows() {
        TrainBook x = new TrainBook();
        Check.line(x, 0, 10, 1, 50);
        Check.line(x, 1, 20, 0, 30);
        x.table(3);
        dueText("rows", rowsOf(x), "aba");
        dueBreaches("at station 1", x, 1, 1);
    }

    // "NONE without one, or for another what."

    static void promise15NoneWithoutATable() {
        TrainBook x = trainsOf("ab", "ab");
        for (int what = -2; what < 4; what++) {
            Check.due("breaches(" + what + ")", x.breaches(what), -1);
        }
        x.table(0);
        Check.due("behind a refused one", x.breaches(0), -1);
    }

    static void promise15NoneForAnotherWhat() {
        TrainBook x = tableOf("ab", "ab");
        for (int what : Check.NEVER) {
            Check.due("breaches(" + what + ")", x.breaches(what), -1);
        }
        for (int what = 2; what < 12; what++) {
            Check.due("breaches(" + what + ")", x.breaches(what), -1);
        }
    }

    // ---- 16: "Whether the TRAIN of COLUMN j BREACHES that of COLUMN i, i left of j: 1, 0; .."

    static void promise16OneAndZero() {
        TrainBook x = new TrainBook();
        Check.line(x, 0, 10, 1, 50);
        Check.line(x, 0, 20, 1, 40);
        Check.line(x, 0, 30, 1, 60);
        x.table(7);
        Check.dueColumns(x, 0, 1, 2);
        Check.due("breach(0, 1)", x.breach(0, 1), 1);
        Check.due("breach(0, 2)", x.breach(0, 2), 0);
        Check.due("breach(1, 2)", x.breach(1, 2), 0);
    }

    static void promise16TheRightOneBreachesTheLeftOne() {
        TrainBook ring = new TrainBook();
        Check.line(ring, 0, 10, 2, 50, 9, 60);
        Check.line(ring, 0, 20, 1, 30, 9, 60);
        Check.line(ring, 1, 35, 2, 40, 9, 60);
        ring.table(7);
        Check.dueColumns(ring, 0, 1, 2);
        Check.due("breach(0, 1)", ring.breach(0, 1), 0);
        Check.due("breach(1, 2)", ring.breach(1, 2), 0);
        Check.due("breach(0, 2)", ring.breach(0, 2), 1);
        dueBreaches("a ring", ring, 1, 0);
    }

    // "NONE if there are none such."

    static void promise16NoneIfNotLeft() {
        TrainBook x = Check.fullBook();
        for (int i = 0; i < 6; i++) {
            for (int j = 0; j < 6; j++) {
                Check.due("breach(" + i + ", " + j + ") is NONE", x.breach(i, j) == -1, i >= j);
            }
        }
    }

    static void promise16NoneForNoSuchColumn() {
        TrainBook x = Check.fullBook();
        for (int i : Check.NEVER) {
            Check.due("breach(" + i + ", 1)", x.breach(i, 1), -1);
            Check.due("breach(0, " + i + ")", x.breach(0, i), -1);
            Check.due("breach(" + i + ", " + i + ")", x.breach(i, i), -1);
        }
        Check.due("breach(0, 6)", x.breach(0, 6), -1);
        Check.due("breach(5, 6)", x.breach(5, 6), -1);
        Check.due("breach(6, 7)", x.breach(6, 7), -1);
        Check.due("breach(-1, 0)", x.breach(-1, 0), -1);
        Check.due("breach(LEAST, MOST)", x.breach(LEAST, MOST), -1);
    }

    static void promise16NoneOfOneColumn() {
        TrainBook x = tableOf("ab");
        for (int i = -1; i < 3; i++) {
            for (int j = -1; j < 3; j++) {
                Check.due("breach(" + i + ", " + j + ")", x.breach(i, j), -1);
            }
        }
    }

    static void promise16NoneWithoutATable() {
        TrainBook x = trainsOf("ab", "ab");
        Check.due("breach(0, 1)", x.breach(0, 1), -1);
        Check.due("breach(0, 0)", x.breach(0, 0), -1);
    }

    // ---- 17: "How many LANES the TABLE needs; NONE without one."

    static void promise17OneLaneForOneTrain() {
        Check.due("lanes()", tableOf("ab").lanes(), 1);
    }

    static void promise17OneLaneForSixThatNeverMeet() {
        Check.due("lanes()", tableOf("ab", "cd", "ef", "gh", "ij", "kl").lanes(), 1);
    }

    static void promise17SixLanesForSixThatMeet() {
        Check.due("lanes()", tableOf("ab", "ab", "ab", "ab", "ab", "ab").lanes(), 6);
    }

    static void promise17OneRowInCommonIsEnough() {
        Check.due("the last row of one is the first of another", tableOf("ab", "bc").lanes(), 2);
        Check.due("the row behind the last", tableOf("ab", "cd").lanes(), 1);
        Check.due("a row that is PAST", tableOf("abcd", "ad", "bc").lanes(), 3);
    }

    static void promise17ALaneIsFreeBehindTheLastRow() {
        TrainBook x = tableOf("ab", "bc", "cd", "de", "ef", "fg");
        Check.due("a chain", x.lanes(), 2);
        for (int j = 0; j < 6; j++) {
            Check.due("lane(" + j + ")", x.lane(j), j % 2);
        }
    }

    static void promise17ATableMadeAnewNeedsItsOwn() {
        TrainBook x = tableOf("ab", "ab", "ab", "ab", "ab", "cd");
        Check.due("six trains", x.lanes(), 5);
        x.table(0b100001);
        Check.due("two that never meet", x.lanes(), 1);
        Check.due("lane(1)", x.lane(1), 0);
        x.table(0b000011);
        Check.due("two that meet", x.lanes(), 2);
    }

    static void promise17NoneWithoutATable() {
        TrainBook x = trainsOf("ab", "a");
        Check.due("lanes()", x.lanes(), -1);
        x.table(2);
        Check.due("behind a refused one", x.lanes(), -1);
        x.table(1);
        x.table(2);
        Check.due("it stays", x.lanes(), 1);
    }

    // ---- 18: "The LANE of the TRAIN of COLUMN i; NONE if there is none such."

    static void promise18TheLesserTrainFirstOfThoseThatBeginAlike() {
        TrainBook x = tableOf("ab", "ab", "ab", "ab", "ab", "ab");
        for (int i = 0; i < 6; i++) {
            Check.due("lane(" + i + ")", x.lane(i), i);
        }
        TrainBook back = new TrainBook();
        Check.line(back, 0, 50, 1, 60);
        Check.line(back, 0, 10, 1, 20);
        back.table(3);
        Check.dueColumns(back, 1, 0);
        Check.due("of train 1", back.lane(0), 1);
        Check.due("of train 0", back.lane(1), 0);
    }

    static void promise18TheRowAtWhichItBeginsBeforeTheTrain() {
        TrainBook x = tableOf("bc", "ab");
        dueText("rows", rowsOf(x), "abc");
        Check.dueColumns(x, 0, 1);
        Check.due("of train 0, that begins at b", x.lane(0), 1);
        Check.due("of train 1, that begins at a", x.lane(1), 0);
    }

    static void promise18TheLeastLaneThatIsFree() {
        TrainBook x = tableOf("abcdef", "ab", "ac", "cd", "ef");
        dueText("rows", rowsOf(x), "abcdef");
        Check.dueColumns(x, 0, 1, 2, 3, 4);
        Check.due("lane(0)", x.lane(0), 0);
        Check.due("lane(1)", x.lane(1), 1);
        Check.due("lane(2)", x.lane(2), 2);
        Check.due("the lane of ab is free at c, that of ac is not", x.lane(3), 1);
        Check.due("both are free at e", x.lane(4), 1);
        Check.due("lanes()", x.lanes(), 3);
    }

    static void promise18NoneForNoSuchColumn() {
        TrainBook x = Check.fullBook();
        for (int i : Check.NEVER) {
            Check.due("lane(" + i + ")", x.lane(i), -1);
        }
        Check.due("lane(5) is NONE", x.lane(5) == -1, false);
        Check.due("lane(6)", x.lane(6), -1);
        Check.due("lane(7)", x.lane(7), -1);
        TrainBook one = tableOf("ab");
        Check.due("lane(0)", one.lane(0), 0);
        Check.due("lane(1)", one.lane(1), -1);
    }

    static void promise18NoneWithoutATable() {
        TrainBook x = trainsOf("ab");
        for (int i = -1; i < 8; i++) {
            Check.due("lane(" + i + ")", x.lane(i), -1);
        }
    }
}

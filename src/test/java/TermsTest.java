/**
 * The document's "What it is" (part 0) and the three parts of its "Terms", a test for each sentence, also
 * for those that name no boundary case. Most look at one book such as a line and its branch might have;
 * what is due was worked out by hand.
 */
public final class TermsTest {
    private static final int BLANK = -1;
    private static final int PAST = -2;
    private static final int WORKDAYS = 31;
    private static final int WEEKEND = 96;
    private static final int ALL_DAYS = 127;

    public static void main(String[] args) {
        Check.runAll(TermsTest.class, "part", 0, 3);
    }

    /** A line from 0 to 5 and a branch from 3 to 8: local, express, branch, back, weekend, branch back. */
    private static TrainBook lineAndBranch() {
        TrainBook x = new TrainBook();
        Check.add(x, WORKDAYS, 0, 360, 362, 1, 370, 371, 2, 380, 381, 3, 390, 395, 4, 405, 407);
        Check.add(x, ALL_DAYS, 0, 375, 377, 3, 393, 394, 4, 400, 401, 5, 415, 415);
        Check.add(x, WORKDAYS, 3, 398, 400, 7, 410, 411, 8, 420, 420);
        Check.add(x, ALL_DAYS, 5, 430, 432, 4, 440, 441, 3, 450, 452, 0, 480, 480);
        Check.add(x, WEEKEND, 0, 500, 500, 2, 515, 516, 3, 525, 525);
        Check.add(x, WORKDAYS, 8, 430, 431, 7, 440, 441, 3, 455, 455);
        return x;
    }

    private static void dueColumnOfCells(TrainBook x, int j, int... goes) {
        for (int i = 0; i < goes.length; i++) {
            Check.due("cell(" + i + ", " + j + ", 1)", x.cell(i, j, 1), goes[i]);
        }
        Check.due("cell(" + goes.length + ", " + j + ", 1)", x.cell(goes.length, j, 1), -3);
    }

    private static void dueLanes(TrainBook x, int count, int... lanes) {
        Check.due("lanes()", x.lanes(), count);
        for (int j = 0; j < lanes.length; j++) {
            Check.due("lane(" + j + ")", x.lane(j), lanes[j]);
        }
    }

    private static void dueStop(TrainBook x, int t, int i, int station, int comes, int goes) {
        int what = 100 * t + 110 + 10 * i;
        Check.due("about(" + what + ")", x.about(what), station);
        Check.due("about(" + (what + 1) + ")", x.about(what + 1), comes);
        Check.due("about(" + (what + 2) + ")", x.about(what + 2), goes);
    }

    // ---- What it is: "A book of trains: trains with their stops and days set into tables, .."

    static void part0StationsDownInTheFewestRowsThatAllTrainsKeep() {
        TrainBook x = lineAndBranch();
        Check.due("local, express, weekend", x.table(0b010011), 6);
        Check.dueRows(x, 0, 1, 2, 3, 4, 5);
        Check.due("local and branch", x.table(0b000101), 7);
        Check.dueRows(x, 0, 1, 2, 3, 4, 7, 8);
        Check.due("there and back", x.table(0b001010), 7);
        Check.dueRows(x, 0, 3, 4, 5, 4, 3, 0);
    }

    static void part0TrainsAcrossInTheOrderWithTheFewestThatMustReadToTheLeft() {
        TrainBook x = lineAndBranch();
        x.table(0b110000);
        Check.dueColumns(x, 5, 4);
        Check.due("breaches(0)", x.breaches(0), 0);
        x.table(0b010011);
        Check.dueColumns(x, 0, 1, 4);
        Check.due("the express overtakes the local", x.breaches(0), 1);
    }

    static void part0DaysToldInTheFewestSigns() {
        TrainBook x = lineAndBranch();
        x.sign(7, WORKDAYS);
        x.sign(8, WEEKEND);
        Check.due("workdays", x.signs(0, 0), 1);
        Check.due("workdays", x.signs(0, 1), 128);
        Check.due("weekend", x.signs(4, 0), 1);
        Check.due("weekend", x.signs(4, 1), 256);
        Check.due("all days", x.signs(1, 0), 2);
        Check.due("all days", x.signs(1, 1), 128 + 256);
    }

    static void part0TrainsThatNeverMeetInARowShareAColumn() {
        TrainBook x = new TrainBook();
        Check.add(x, 1, 0, 10, 10, 1, 20, 20, 2, 30, 30);
        Check.add(x, 1, 3, 10, 10, 4, 20, 20);
        Check.add(x, 1, 2, 50, 50, 3, 60, 60);
        x.table(0b011);
        dueLanes(x, 1, 0, 0);
        x.table(0b111);
        Check.dueRows(x, 0, 1, 2, 3, 4);
        Check.dueColumns(x, 0, 1, 2);
        dueLanes(x, 2, 0, 0, 1);
    }

    /** The trains are told again by the cells alone, each with its stops in their order. */
    static void part0EveryCellReadBack() {
        TrainBook x = lineAndBranch();
        int rows = x.table(0b111111);
        for (int j = 0; j < 6; j++) {
            int t = x.column(j);
            int stops = 0;
            for (int i = 0; i < rows; i++) {
                if (x.cell(i, j, 0) >= 0) {
                    dueStop(x, t, stops, x.row(i), x.cell(i, j, 0), x.cell(i, j, 1));
                    stops++;
                }
            }
            Check.due("stops of train " + t, stops, x.about(100 * t + 101));
        }
    }

    static void part0TheSoonestWaysWithTheFewestChanges() {
        TrainBook x = lineAndBranch();
        Check.dueWay(x, 0, 5, 0, 1, 0, 5, 377, 415);
        Check.dueWay(x, 0, 8, 0, 0, 0, 3, 362, 390, 2, 3, 8, 400, 420);
        Check.dueWay(x, 0, 8, 363, 1, 0, 3, 377, 393, 2, 3, 8, 400, 420);
        Check.due("not back in time for the train at 3", x.way(8, 0, 0, 0, 0), -1);
        Check.due("no branch at the weekend", x.way(0, 8, 5, 0, 0), -1);
    }

    // ---- Terms 1: "STATIONS 0 .. 11. TRAINS 0 .. 9, numbered as they come, have DAYS .. and STOPS"

    static void part1TrainsAreNumberedAsTheyCome() {
        TrainBook x = new TrainBook();
        for (int t = 0; t < 10; t++) {
            Check.due("train", x.train(1 + t), t);
        }
        for (int t = 0; t < 10; t++) {
            Check.due("days of train " + t, x.about(100 * t + 100), 1 + t);
        }
    }

    static void part1DayDCountsTwoToTheD() {
        TrainBook x = new TrainBook();
        Check.add(x, 1 + 4 + 32, 0, 10, 10, 11, 20, 20);
        int[] comes = {20, -1, 20, -1, -1, 20, -1};
        for (int day = 0; day < 7; day++) {
            Check.due("day " + day, x.way(0, 11, day, 0, 0), comes[day]);
        }
    }

    static void part1StopsInTheirOrderWithTheirMinutes() {
        TrainBook x = lineAndBranch();
        dueStop(x, 3, 0, 5, 430, 432);
        dueStop(x, 3, 1, 4, 440, 441);
        dueStop(x, 3, 2, 3, 450, 452);
        dueStop(x, 3, 3, 0, 480, 480);
        Check.due("about(401)", x.about(401), 4);
    }

    static void part1EachAtAnotherStation() {
        TrainBook x = lineAndBranch();
        for (int station = 0; station < 5; station++) {
            Check.due("stop(0, " + station + ", ..)", x.stop(0, station, 500, 501), -1);
        }
        Check.due("stop(0, 5, 500, 501)", x.stop(0, 5, 500, 501), 6);
    }

    static void part1ItGoesWhenItComesOrLaterAndComesToTheNextOneLater() {
        TrainBook x = lineAndBranch();
        Check.due("goes a minute early", x.stop(0, 9, 410, 409), -1);
        Check.due("comes when it goes", x.stop(0, 9, 407, 409), -1);
        Check.due("comes earlier", x.stop(0, 9, 400, 409), -1);
        Check.due("comes a minute later", x.stop(0, 9, 408, 408), 6);
        dueStop(x, 0, 5, 9, 408, 408);
    }

    // ---- Terms 1: "SIGNS: 0 .. 6 are the single days; 7 .. 12 are sets that are told .."

    static void part1SignsAreSingleDaysUntilSetsAreTold() {
        TrainBook x = lineAndBranch();
        Check.due("five days", x.signs(0, 0), 5);
        Check.due("five days", x.signs(0, 1), WORKDAYS);
        Check.due("seven days", x.signs(1, 0), 7);
        Check.due("seven days", x.signs(1, 1), ALL_DAYS);
    }

    static void part1SetsOfSignsThatTogetherHaveJustItsDays() {
        TrainBook x = lineAndBranch();
        x.sign(7, 0b0001111);
        x.sign(8, 0b0111000);
        Check.due("a day too many does not help", x.signs(0, 1), 128 + 16);
        x.sign(9, 0b0011100);
        x.sign(7, 0b0000111);
        Check.due("one day may be in both", x.signs(0, 1), 128 + 512);
        Check.due("all days", x.signs(1, 1), 64 + 128 + 256);
    }

    static void part1OfTheFewestTheLeastAsANumber() {
        TrainBook x = lineAndBranch();
        x.sign(7, WORKDAYS);
        x.sign(8, WEEKEND);
        x.sign(9, 0b0001111);
        x.sign(10, 0b1110000);
        Check.due("7 with 8 before 7 with 10 and 9 with 10", x.signs(1, 1), 128 + 256);
        x.sign(8, 0);
        Check.due("7 with 10 before 9 with 10", x.signs(1, 1), 128 + 1024);
        x.sign(7, 0);
        Check.due("9 with 10", x.signs(1, 1), 512 + 1024);
        x.sign(12, ALL_DAYS);
        Check.due("fewer come first", x.signs(1, 1), 4096);
    }

    // ---- Terms 2: "Its ROWS: a row of STATIONS (one may come again) in which .."

    static void part2StopsAreFoundInTheirOrderWithOthersBetween() {
        TrainBook x = lineAndBranch();
        x.table(0b011011);
        Check.dueRows(x, 0, 1, 2, 3, 4, 5, 4, 3, 0);
        x.table(0b111111);
        Check.dueRows(x, 0, 1, 2, 3, 4, 5, 4, 7, 8, 7, 3, 0);
    }

    static void part2TheShortestOfSeveralTheFirst() {
        TrainBook x = lineAndBranch();
        Check.due("weekend and branch back", x.table(0b110000), 5);
        Check.dueRows(x, 0, 2, 8, 7, 3);
        Check.due("branch there and back", x.table(0b100100), 5);
        Check.dueRows(x, 3, 7, 8, 7, 3);
    }

    static void part2AStopIsAtTheFirstRowBehindThatHasItsStation() {
        TrainBook x = lineAndBranch();
        x.table(0b001010);
        Check.dueColumns(x, 1, 3);
        dueColumnOfCells(x, 0, 377, 394, 401, 415, BLANK, BLANK, BLANK);
        dueColumnOfCells(x, 1, BLANK, BLANK, BLANK, 432, 441, 452, 480);
    }

    // ---- Terms 2: "Its COLUMNS: the TRAINS in an order. One BREACHES another one that stands left .."

    static void part2OneBreachesIfItGoesEarlierFromSomeStation() {
        TrainBook x = lineAndBranch();
        x.table(0b010011);
        Check.due("the express breaches the local", x.breach(0, 1), 1);
        Check.due("the weekend train does not", x.breach(0, 2), 0);
        Check.due("the weekend train does not", x.breach(1, 2), 0);
        x.shift(1, 10);
        x.table(0b010011);
        Check.due("behind the local everywhere", x.breach(0, 1), 0);
    }

    /** The local comes to its last stop at 405 and goes at 407; the express goes from there. */
    static void part2OfALastStopItsComingCounts() {
        TrainBook x = lineAndBranch();
        x.shift(1, 5);
        x.table(0b000011);
        Check.due("406 is not before 405", x.breach(0, 1), 0);
        Check.due("breaches(1)", x.breaches(1), 0);
        x.stop(0, 9, 450, 450);
        x.table(0b000011);
        Check.due("406 is before 407", x.breach(0, 1), 1);
        Check.due("breaches(1)", x.breaches(1), 1);
    }

    static void part2TheOrderHasTheFewestBreachesOfSeveralTheFirst() {
        TrainBook x = new TrainBook();
        Check.line(x, 0, 40, 1, 50);
        Check.line(x, 2, 10, 3, 20);
        Check.line(x, 0, 20, 1, 30);
        Check.line(x, 2, 30, 3, 40);
        Check.due("table", x.table(15), 4);
        Check.dueColumns(x, 1, 2, 0, 3);
        Check.due("breaches(0)", x.breaches(0), 0);
    }

    static void part2AKnotIsTwoTrainsOfWhichEachWouldBreachTheOther() {
        TrainBook x = lineAndBranch();
        x.table(0b010011);
        Check.due("local and express", x.breaches(1), 1);
        x.table(0b011010);
        Check.due("no two", x.breaches(1), 0);
        x.shift(1, -20);
        x.table(0b000011);
        Check.due("the express is ahead everywhere", x.breaches(1), 0);
        Check.dueColumns(x, 1, 0);
    }

    // ---- Terms 2: "A CELL, of a ROW and a COLUMN: the minutes, .. PAST, .. else BLANK."

    static void part2ACellHasTheMinutesOrIsPastOrBlank() {
        TrainBook x = lineAndBranch();
        x.table(0b010011);
        dueColumnOfCells(x, 0, 362, 371, 381, 395, 407, BLANK);
        dueColumnOfCells(x, 1, 377, PAST, PAST, 394, 401, 415);
        dueColumnOfCells(x, 2, 500, PAST, 516, 525, BLANK, BLANK);
        Check.due("it comes", x.cell(0, 0, 0), 360);
        Check.due("it comes", x.cell(3, 1, 0), 393);
        Check.due("past", x.cell(1, 1, 0), PAST);
        Check.due("blank", x.cell(4, 2, 0), BLANK);
    }

    // ---- Terms 2: "LANES: TRAINS of which no two have a ROW in common .. can share one. .."

    static void part2TrainsWithARowInCommonDoNotShareALane() {
        TrainBook x = lineAndBranch();
        x.table(0b010011);
        dueLanes(x, 3, 0, 1, 2);
        x.table(0b001010);
        dueLanes(x, 2, 0, 1);
    }

    /** Rows 0 to 5; begun at 0: trains 1 and 3, at 2: train 0, at 3: train 2, at 4: train 4. */
    static void part2ByTheRowsAtWhichTheyBeginEachGetsTheLeastThatIsFree() {
        TrainBook x = new TrainBook();
        Check.line(x, 2, 10, 3, 20);
        Check.line(x, 0, 30, 1, 40);
        Check.line(x, 3, 50, 4, 60);
        Check.line(x, 0, 70, 1, 80, 2, 90);
        Check.line(x, 4, 100, 5, 110);
        x.table(31);
        Check.dueRows(x, 0, 1, 2, 3, 4, 5);
        Check.dueColumns(x, 0, 1, 2, 3, 4);
        dueLanes(x, 2, 0, 0, 1, 1, 0);
    }

    // ---- Terms 3: "A WAY from a STATION to another one on a day, from a minute on: .."

    static void part3OneTrainOrMoreThatGoOnThatDay() {
        TrainBook x = lineAndBranch();
        Check.due("a workday", x.way(0, 8, 4, 0, 0), 420);
        Check.due("the weekend", x.way(0, 8, 6, 0, 0), -1);
        Check.due("the local on a workday", x.way(0, 3, 4, 0, 0), 390);
        Check.due("the express at the weekend", x.way(0, 3, 6, 0, 0), 393);
        Check.due("on workdays no train behind it", x.way(0, 3, 4, 378, 0), -1);
        Check.due("the weekend train", x.way(0, 3, 6, 378, 0), 525);
    }

    static void part3EachBoardedAtAStopAndLeftAtALaterOne() {
        TrainBook x = lineAndBranch();
        Check.dueWay(x, 1, 4, 0, 0, 1, 4, 371, 405);
        Check.dueWay(x, 4, 0, 0, 3, 4, 0, 441, 480);
        Check.due("no train goes back to 1", x.way(4, 1, 0, 0, 0), -1);
    }

    static void part3TheFirstGoesAtThatMinuteOrLater() {
        TrainBook x = lineAndBranch();
        Check.dueWay(x, 0, 4, 362, 1, 0, 4, 377, 400);
        Check.dueWay(x, 0, 3, 362, 0, 0, 3, 362, 390);
        Check.dueWay(x, 0, 3, 363, 1, 0, 3, 377, 393);
        Check.due("way(0, 3, 0, 378, 0)", x.way(0, 3, 0, 378, 0), -1);
    }

    static void part3TheNextGoesChangeMinutesBehindItsComing() {
        TrainBook x = lineAndBranch();
        Check.due("from 3 in 4 minutes", x.way(1, 5, 0, 0, 0), -1);
        x.change(4);
        Check.dueWay(x, 1, 5, 0, 0, 1, 3, 371, 390, 1, 3, 5, 394, 415);
        x.change(7);
        Check.dueWay(x, 0, 8, 0, 0, 0, 3, 362, 390, 2, 3, 8, 400, 420);
        Check.dueWay(x, 0, 8, 363, 1, 0, 3, 377, 393, 2, 3, 8, 400, 420);
        x.change(8);
        Check.due("the express comes too late", x.way(0, 8, 0, 363, 0), -1);
        Check.dueWay(x, 0, 8, 0, 0, 0, 3, 362, 390, 2, 3, 8, 400, 420);
    }

    // ---- Terms 3: "BEST: those that come soonest; of these those with the fewest TRAINS; .."

    static void part3TheSoonestThenTheFewestThenTheLeastTrainsThenTheLeastStations() {
        TrainBook x = new TrainBook();
        Check.line(x, 7, 10, 4, 20, 3, 30);
        Check.line(x, 4, 40, 3, 50, 9, 90);
        Check.line(x, 7, 11, 3, 25);
        Check.dueWay(x, 7, 9, 0, 0, 7, 3, 10, 30, 1, 3, 9, 50, 90);
        Check.dueWay(x, 7, 9, 11, 2, 7, 3, 11, 25, 1, 3, 9, 50, 90);
        Check.line(x, 7, 5, 9, 90);
        Check.dueWay(x, 7, 9, 0, 3, 7, 9, 5, 90);
        Check.dueWay(x, 7, 9, 6, 0, 7, 3, 10, 30, 1, 3, 9, 50, 90);
        Check.line(x, 3, 36, 8, 60);
        Check.line(x, 8, 66, 9, 89);
        Check.dueWay(x, 7, 9, 0, 0, 7, 3, 10, 30, 4, 3, 8, 36, 60, 5, 8, 9, 66, 89);
    }

    /** Promise 20 stands on BEST: a minute counts if no later one comes as soon. */
    static void part3SettingOutAsLateAsOneCan() {
        TrainBook x = lineAndBranch();
        Check.dueDepartures(x, 0, 3, 362, 377);
        Check.dueDepartures(x, 0, 4, 377);
        Check.dueDepartures(x, 0, 8, 377);
        Check.dueDepartures(x, 5, 0, 432);
        Check.dueDepartures(x, 8, 0);
    }
}

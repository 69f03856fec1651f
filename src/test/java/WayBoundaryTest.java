import java.util.ArrayList;
import java.util.List;

/**
 * The boundary cases of promises 19 to 21, a test for each sentence that names one: the best way
 * from station to station, and the minutes at which it is worth setting out.
 */
public final class WayBoundaryTest {
    private static final int LEAST = Check.LEAST;
    private static final int MOST = Check.MOST;

    public static void main(String[] args) {
        Check.runAll(WayBoundaryTest.class, "promise", 19, 21);
    }

    private static void dueNoWay(String name, TrainBook x, int from, int to, int minute) {
        for (int what = 0; what < 15; what++) {
            Check.due(name + ": what " + what, x.way(from, to, 0, minute, what), -1);
        }
    }

    /** One train on all days, from station 0 by 5 to station 11. */
    private static TrainBook oneTrain() {
        TrainBook x = new TrainBook();
        Check.add(x, 127, 0, 10, 20, 5, 30, 40, 11, 50, 60);
        return x;
    }

    /** A chain of ten trains from station 0 to 10, the last one first. */
    private static TrainBook chain() {
        TrainBook x = new TrainBook();
        for (int t = 0; t < 10; t++) {
            int from = 9 - t;
            Check.add(x, 1, from, 20 * from, 20 * from + 3, from + 1, 20 * from + 18, 20 * from + 19);
        }
        return x;
    }

    // ---- 19: "The BEST WAY: what 0 when it comes, 1 how many TRAINS, 2 when it GOES; .."

    static void promise19FromTheFirstStationToTheLast() {
        TrainBook x = oneTrain();
        Check.dueWay(x, 0, 11, 0, 0, 0, 11, 20, 50);
        Check.dueWay(x, 0, 5, 0, 0, 0, 5, 20, 30);
        Check.dueWay(x, 5, 11, 0, 0, 5, 11, 40, 50);
    }

    static void promise19TheFirstAndLastDay() {
        TrainBook x = new TrainBook();
        Check.add(x, 1, 0, 10, 10, 1, 20, 20);
        Check.add(x, 64, 0, 30, 30, 1, 40, 40);
        Check.due("day 0", x.way(0, 1, 0, 0, 0), 20);
        Check.due("day 6", x.way(0, 1, 6, 0, 0), 40);
        for (int day = 1; day < 6; day++) {
            Check.due("day " + day, x.way(0, 1, day, 0, 0), -1);
        }
    }

    static void promise19EachTrainMustGoOnThatDay() {
        TrainBook x = new TrainBook();
        Check.add(x, 0b0000011, 0, 10, 10, 1, 20, 20);
        Check.add(x, 0b0000110, 1, 30, 30, 2, 40, 40);
        int[] comes = {-1, 40, -1};
        for (int day = 0; day < 3; day++) {
            Check.due("day " + day, x.way(0, 2, day, 0, 0), comes[day]);
        }
    }

    static void promise19TheFirstAndLastMinute() {
        TrainBook x = new TrainBook();
        Check.line(x, 0, 0, 1, 1439);
        Check.line(x, 2, 1438, 3, 1439);
        Check.dueWay(x, 0, 1, 0, 0, 0, 1, 0, 1439);
        dueNoWay("a minute later", x, 0, 1, 1);
        Check.dueWay(x, 2, 3, 0, 1, 2, 3, 1438, 1439);
        Check.dueWay(x, 2, 3, 1438, 1, 2, 3, 1438, 1439);
        dueNoWay("the last minute", x, 2, 3, 1439);
    }

    static void promise19ItGoesAtThatMinuteOrLater() {
        TrainBook x = oneTrain();
        Check.dueWay(x, 0, 11, 20, 0, 0, 11, 20, 50);
        dueNoWay("a minute later", x, 0, 11, 21);
        Check.dueWay(x, 5, 11, 40, 0, 5, 11, 40, 50);
        dueNoWay("a minute later", x, 5, 11, 41);
    }

    static void promise19NotBoardedAtItsLastStop() {
        TrainBook x = oneTrain();
        dueNoWay("from the last stop", x, 11, 0, 0);
        dueNoWay("from the last stop", x, 11, 5, 0);
        Check.due("departures", x.departures(11, 0, 0), 0);
    }

    static void promise19LeftAtALaterStop() {
        TrainBook x = oneTrain();
        dueNoWay("backward", x, 5, 0, 0);
        TrainBook both = new TrainBook();
        Check.line(both, 3, 10, 4, 20);
        Check.line(both, 4, 30, 3, 40);
        Check.dueWay(both, 4, 3, 0, 1, 4, 3, 30, 40);
        Check.dueWay(both, 3, 4, 0, 0, 3, 4, 10, 20);
    }

    /** Each of these trains stays long, so that who comes late could still board and leave it there. */
    static void promise19NoTrainIsLeftWhereItIsBoarded() {
        TrainBook atTheEnd = new TrainBook();
        Check.line(atTheEnd, 0, 10, 9, 80);
        Check.line(atTheEnd, 0, 10, 1, 20);
        Check.add(atTheEnd, 1, 1, 30, 30, 9, 50, 100, 8, 110, 110);
        Check.dueWay(atTheEnd, 0, 9, 0, 1, 0, 1, 10, 20, 2, 1, 9, 30, 50);

        TrainBook between = new TrainBook();
        Check.line(between, 0, 10, 1, 40);
        Check.add(between, 1, 8, 5, 5, 1, 10, 60, 7, 70, 70);
        Check.line(between, 1, 30, 9, 100);
        Check.line(between, 0, 10, 2, 20);
        Check.line(between, 2, 30, 3, 40);
        Check.line(between, 3, 50, 9, 100);
        Check.dueWay(between, 0, 9, 0, 3, 0, 2, 10, 20, 4, 2, 3, 30, 40, 5, 3, 9, 50, 100);

        TrainBook atTheBeginning = new TrainBook();
        Check.add(atTheBeginning, 1, 0, 5, 30, 1, 40, 40);
        Check.line(atTheBeginning, 0, 20, 9, 100);
        Check.line(atTheBeginning, 1, 50, 9, 100);
        Check.dueWay(atTheBeginning, 0, 9, 25, 0, 0, 1, 30, 40, 2, 1, 9, 50, 100);
        dueNoWay("a minute too late", atTheBeginning, 0, 9, 31);
    }

    static void promise19NoStationIsBothBoardedAndLeft() {
        TrainBook atTheEnd = new TrainBook();
        Check.line(atTheEnd, 0, 10, 5, 20, 1, 80);
        Check.add(atTheEnd, 1, 5, 30, 30, 1, 50, 100);
        Check.dueWay(atTheEnd, 0, 1, 0, 0, 0, 5, 10, 20, 1, 5, 1, 30, 50);

        TrainBook between = new TrainBook();
        Check.line(between, 0, 10, 5, 20, 1, 80);
        Check.add(between, 1, 5, 30, 30, 1, 50, 100);
        Check.line(between, 1, 60, 9, 120);
        Check.dueWay(between, 0, 9, 0, 0, 0, 5, 10, 20, 1, 5, 1, 30, 50, 2, 1, 9, 60, 120);

        TrainBook atTheBeginning = new TrainBook();
        Check.add(atTheBeginning, 1, 0, 5, 30, 1, 40, 40);
        Check.line(atTheBeginning, 0, 20, 1, 50, 9, 100);
        Check.dueWay(atTheBeginning, 0, 9, 25, 0, 0, 1, 30, 40, 1, 1, 9, 50, 100);
    }

    static void promise19NotLeftAtAnEarlierStop() {
        TrainBook x = new TrainBook();
        Check.line(x, 0, 10, 1, 20);
        Check.line(x, 6, 5, 5, 10, 1, 40, 3, 50);
        Check.line(x, 5, 60, 9, 100);
        Check.line(x, 3, 60, 9, 100);
        Check.dueWay(x, 0, 9, 0, 0, 0, 1, 10, 20, 1, 1, 3, 40, 50, 3, 3, 9, 60, 100);
    }

    static void promise19NoChangeAtAStopThatWasCut() {
        TrainBook x = new TrainBook();
        Check.line(x, 0, 10, 1, 20, 2, 30);
        Check.line(x, 0, 10, 2, 30);
        Check.line(x, 2, 40, 3, 50);
        Check.dueWay(x, 0, 3, 0, 0, 0, 2, 10, 30, 2, 2, 3, 40, 50);
        x.cut(0);
        Check.dueWay(x, 0, 3, 0, 1, 0, 2, 10, 30, 2, 2, 3, 40, 50);
        x.cut(1);
        dueNoWay("both are cut", x, 0, 3, 0);

        TrainBook three = new TrainBook();
        Check.line(three, 0, 10, 5, 20, 1, 50);
        Check.line(three, 5, 30, 3, 40, 1, 60, 4, 70);
        Check.line(three, 3, 50, 4, 80, 9, 100);
        Check.dueWay(three, 0, 9, 0, 0, 0, 1, 10, 50, 1, 1, 4, 60, 70, 2, 4, 9, 80, 100);
        three.cut(1);
        Check.dueWay(three, 0, 9, 0, 0, 0, 5, 10, 20, 1, 5, 3, 30, 40, 2, 3, 9, 50, 100);
    }

    static void promise19OneStopIsNoWay() {
        TrainBook x = new TrainBook();
        Check.line(x, 0, 10);
        x.train(127);
        for (int other = 1; other < 12; other++) {
            dueNoWay("one stop", x, 0, other, 0);
            dueNoWay("one stop", x, other, 0, 0);
        }
    }

    // the term WAY: "GOES CHANGE minutes behind its COMING at least (0 .. 60; 5 at first)"

    /** The second train goes so many minutes behind the first one's coming. */
    private static TrainBook changing(int change, int minutes) {
        TrainBook x = new TrainBook();
        Check.add(x, 1, 0, 10, 10, 1, 100, 300);
        Check.add(x, 1, 1, 0, 100 + minutes, 2, 400, 400);
        Check.due("change(" + change + ")", x.change(change), true);
        return x;
    }

    static void promise19ChangeMinutesAtLeast() {
        for (int change : new int[] {0, 1, 5, 59, 60}) {
            Check.dueWay(changing(change, change), 0, 2, 0, 0, 0, 1, 10, 100, 1, 1, 2, 100 + change, 400);
            Check.dueWay(changing(change, change + 1), 0, 2, 0, 0, 0, 1, 10, 100, 1, 1, 2, 101 + change, 400);
            dueNoWay("a minute short of " + change, changing(change, change - 1), 0, 2, 0);
        }
    }

    static void promise19ALesserTrainThatComesAMinuteTooLate() {
        TrainBook x = new TrainBook();
        Check.line(x, 0, 10, 1, 36);
        Check.line(x, 0, 10, 1, 30);
        Check.line(x, 1, 40, 2, 50);
        Check.dueWay(x, 0, 2, 0, 1, 0, 1, 10, 30, 2, 1, 2, 40, 50);
        x.change(4);
        Check.dueWay(x, 0, 2, 0, 0, 0, 1, 10, 36, 2, 1, 2, 40, 50);
    }

    static void promise19TheFirstTrainNeedsNoChange() {
        TrainBook x = changing(60, 0);
        Check.dueWay(x, 1, 2, 100, 1, 1, 2, 100, 400);
        Check.dueWay(x, 0, 1, 10, 0, 0, 1, 10, 100);
    }

    static void promise19WhoStaysNeedsNoChange() {
        TrainBook x = new TrainBook();
        Check.line(x, 0, 10, 1, 11, 2, 12);
        x.change(60);
        Check.dueWay(x, 0, 2, 0, 0, 0, 2, 10, 12);
    }

    // ".. of its TRAIN i 10 i + 10 its number, + 11 the STATION .. boarded, + 12 .. left, + 13, + 14 when."

    static void promise19AsManyTrainsAsThereAre() {
        TrainBook x = chain();
        int[] parts = new int[50];
        for (int i = 0; i < 10; i++) {
            int[] part = {9 - i, i, i + 1, 20 * i + 3, 20 * i + 18};
            System.arraycopy(part, 0, parts, 5 * i, 5);
        }
        Check.dueWay(x, 0, 10, 0, parts);
        for (int what = 105; what < 130; what++) {
            Check.due("what " + what, x.way(0, 10, 0, 0, what), -1);
        }
    }

    static void promise19NoneForATrainThatItHasNot() {
        TrainBook x = chain();
        for (int legs = 1; legs < 10; legs++) {
            for (int what = 10 * legs + 10; what < 10 * legs + 20; what++) {
                Check.due("what " + what + " of " + legs, x.way(0, legs, 0, 0, what), -1);
            }
        }
    }

    // "NONE: there is none, one can't be (from is to, too), or another what."

    static void promise19NoneIfThereIsNone() {
        TrainBook x = oneTrain();
        dueNoWay("no train goes there", x, 0, 1, 0);
        dueNoWay("no train goes from there", x, 1, 0, 0);
        x.days(0, 126);
        dueNoWay("no train on that day", x, 0, 11, 0);
    }

    static void promise19NoneIfFromIsTo() {
        TrainBook x = oneTrain();
        for (int station = 0; station < 12; station++) {
            dueNoWay("from is to", x, station, station, 0);
        }
        TrainBook round = new TrainBook();
        Check.line(round, 0, 10, 1, 20);
        Check.line(round, 1, 30, 0, 40);
        dueNoWay("there and back", round, 0, 0, 0);
        dueNoWay("there and back", round, 1, 1, 0);
    }

    static void promise19NoneForNoSuchStation() {
        TrainBook x = oneTrain();
        for (int station : Check.NEVER) {
            Check.due("from " + station, x.way(station, 11, 0, 0, 0), -1);
            Check.due("to " + station, x.way(0, station, 0, 0, 0), -1);
            Check.due("from and to " + station, x.way(station, station, 0, 0, 0), -1);
        }
        Check.due("from 12", x.way(12, 11, 0, 0, 0), -1);
        Check.due("to 12", x.way(0, 12, 0, 0, 0), -1);
        Check.due("both", x.way(LEAST, MOST, 0, 0, 0), -1);
    }

    static void promise19NoneForNoSuchDay() {
        TrainBook x = oneTrain();
        for (int day = 0; day < 7; day++) {
            Check.due("day " + day, x.way(0, 11, day, 0, 0), 50);
        }
        for (int day : Check.NEVER) {
            Check.due("day " + day, x.way(0, 11, day, 0, 0), -1);
        }
        for (int day : new int[] {7, 8, 31, 32, 33, 64}) {
            Check.due("day " + day, x.way(0, 11, day, 0, 0), -1);
        }
    }

    static void promise19NoneForNoSuchMinute() {
        TrainBook x = oneTrain();
        for (int minute : Check.NEVER) {
            Check.due("minute " + minute, x.way(0, 11, 0, minute, 0), -1);
        }
        Check.due("minute 1439", x.way(0, 11, 0, 1439, 0), -1);
        Check.due("minute 0", x.way(0, 11, 0, 0, 0), 50);
    }

    static void promise19NoneForAnotherWhat() {
        TrainBook x = oneTrain();
        for (int what : Check.NEVER) {
            Check.due("what " + what, x.way(0, 11, 0, 0, what), -1);
        }
        for (int what = 3; what < 130; what++) {
            boolean told = what >= 10 && what <= 14;
            Check.due("what " + what + " is NONE", x.way(0, 11, 0, 0, what) == -1, !told);
        }
        for (int what = -30; what < 0; what++) {
            Check.due("what " + what, x.way(0, 11, 0, 0, what), -1);
        }
    }

    // the term BEST: "those that come soonest; of these those with the fewest TRAINS; .."

    static void promise19TheSoonestBeforeTheFewest() {
        TrainBook x = new TrainBook();
        Check.line(x, 0, 10, 2, 51);
        Check.line(x, 0, 10, 1, 20);
        Check.line(x, 1, 25, 2, 50);
        Check.dueWay(x, 0, 2, 0, 1, 0, 1, 10, 20, 2, 1, 2, 25, 50);
        x.shift(0, -1);
        Check.dueWay(x, 0, 2, 0, 0, 0, 2, 9, 50);
    }

    static void promise19TheFewestBeforeTheLeast() {
        TrainBook x = new TrainBook();
        Check.line(x, 0, 10, 1, 20);
        Check.line(x, 1, 25, 2, 50);
        Check.line(x, 0, 40, 2, 50);
        Check.dueWay(x, 0, 2, 0, 2, 0, 2, 40, 50);
    }

    static void promise19TheFirstUnlikenessOfItsTrains() {
        TrainBook x = new TrainBook();
        Check.line(x, 0, 30, 2, 50);
        Check.line(x, 0, 10, 2, 50);
        Check.dueWay(x, 0, 2, 0, 0, 0, 2, 30, 50);
        TrainBook two = new TrainBook();
        Check.line(two, 0, 10, 1, 20);
        Check.line(two, 0, 11, 3, 20);
        Check.line(two, 3, 30, 2, 50);
        Check.line(two, 1, 30, 2, 50);
        Check.dueWay(two, 0, 2, 0, 0, 0, 1, 10, 20, 3, 1, 2, 30, 50);
        Check.line(two, 1, 31, 2, 50);
        Check.dueWay(two, 0, 2, 0, 0, 0, 1, 10, 20, 3, 1, 2, 30, 50);
        Check.dueWay(two, 0, 2, 11, 1, 0, 3, 11, 20, 2, 3, 2, 30, 50);
    }

    static void promise19TheTrainsBeforeTheStations() {
        TrainBook x = new TrainBook();
        Check.line(x, 0, 10, 1, 20, 5, 30);
        Check.line(x, 5, 40, 2, 50);
        Check.line(x, 1, 40, 2, 50);
        Check.dueWay(x, 0, 2, 0, 0, 0, 5, 10, 30, 1, 5, 2, 40, 50);
    }

    static void promise19BoardedEarlierForALesserTrainBehind() {
        TrainBook x = new TrainBook();
        Check.line(x, 0, 10, 1, 20, 2, 30);
        Check.line(x, 1, 40, 3, 50, 2, 60, 4, 70);
        Check.line(x, 3, 65, 9, 100);
        Check.line(x, 4, 80, 9, 100);
        Check.dueWay(x, 0, 9, 0, 0, 0, 1, 10, 20, 1, 1, 3, 40, 50, 2, 3, 9, 65, 100);
    }

    static void promise19ALongerWayAskedAheadDoesNotStay() {
        TrainBook x = chain();
        Check.due("ten trains", x.way(0, 10, 0, 0, 1), 10);
        Check.dueWay(x, 8, 10, 0, 1, 8, 9, 163, 178, 0, 9, 10, 183, 198);
        Check.dueWay(x, 0, 1, 0, 9, 0, 1, 3, 18);
        dueNoWay("none", x, 10, 0, 0);
        Check.dueWay(x, 7, 9, 0, 2, 7, 8, 143, 158, 1, 8, 9, 163, 178);
        Check.dueWay(x, 8, 10, 0, 1, 8, 9, 163, 178, 0, 9, 10, 183, 198);
    }

    static void promise19TheLeastStationOfAllAtWhichItCanChange() {
        TrainBook x = new TrainBook();
        Check.line(x, 0, 10, 7, 20, 3, 30, 9, 40);
        Check.line(x, 7, 50, 3, 60, 9, 70, 2, 80);
        Check.dueWay(x, 0, 2, 0, 0, 0, 3, 10, 30, 1, 3, 2, 60, 80);
        x.change(30);
        Check.dueWay(x, 0, 2, 0, 0, 0, 3, 10, 30, 1, 3, 2, 60, 80);
        x.change(31);
        dueNoWay("no station is left", x, 0, 2, 0);
    }

    static void promise19TheFirstUnlikenessOfItsStations() {
        TrainBook x = new TrainBook();
        Check.line(x, 0, 10, 7, 20, 6, 30);
        Check.line(x, 7, 40, 1, 50, 6, 60, 8, 70);
        Check.line(x, 1, 80, 8, 90, 2, 99);
        Check.dueWay(x, 0, 2, 0, 0, 0, 6, 10, 30, 1, 6, 8, 60, 70, 2, 8, 2, 90, 99);
    }

    // ---- 20: "At how many minutes of the day (0 .. 1439) one can set out so that .."

    static void promise20NoTrainNoMinute() {
        Check.dueDepartures(new TrainBook(), 0, 1);
        TrainBook x = oneTrain();
        Check.dueDepartures(x, 11, 0);
        Check.dueDepartures(x, 5, 0);
        Check.dueDepartures(x, 0, 1);
    }

    static void promise20TheFirstAndLastMinute() {
        TrainBook x = new TrainBook();
        Check.line(x, 0, 1438, 1, 1439);
        Check.line(x, 0, 0, 1, 1);
        Check.dueDepartures(x, 0, 1, 0, 1438);
    }

    static void promise20OneForEachTrain() {
        TrainBook x = new TrainBook();
        for (int t = 9; t >= 0; t--) {
            Check.line(x, 0, 10 * t, 1, 200 + t);
        }
        Check.dueDepartures(x, 0, 1, 0, 10, 20, 30, 40, 50, 60, 70, 80, 90);
    }

    static void promise20ALaterOneThatComesAsSoon() {
        TrainBook x = new TrainBook();
        Check.line(x, 0, 10, 1, 50);
        Check.line(x, 0, 11, 1, 50);
        Check.dueDepartures(x, 0, 1, 11);
        x.shift(1, 1);
        Check.dueDepartures(x, 0, 1, 10, 12);
        x.shift(1, -3);
        Check.due("it goes earlier and comes sooner", x.way(0, 1, 0, 0, 0), 48);
        Check.dueDepartures(x, 0, 1, 9, 10);
    }

    static void promise20ALaterOneThatComesSooner() {
        TrainBook x = new TrainBook();
        Check.line(x, 0, 10, 1, 50);
        Check.line(x, 0, 20, 1, 40);
        Check.dueDepartures(x, 0, 1, 20);
    }

    static void promise20TwoTrainsAtOneMinuteCountOnce() {
        TrainBook x = new TrainBook();
        Check.line(x, 0, 10, 1, 50);
        Check.line(x, 0, 10, 1, 40);
        Check.line(x, 0, 10, 1, 60);
        Check.dueDepartures(x, 0, 1, 10);
    }

    static void promise20WhenItGoesNotWhenItComes() {
        TrainBook x = oneTrain();
        Check.dueDepartures(x, 0, 11, 20);
        Check.dueDepartures(x, 5, 11, 40);
    }

    static void promise20ATrainThatEndsThereDoesNotGo() {
        TrainBook x = new TrainBook();
        Check.line(x, 1, 10, 0, 20);
        Check.line(x, 0, 40, 2, 50);
        Check.dueDepartures(x, 0, 2, 40);
    }

    static void promise20OnlyTrainsOfThatDay() {
        TrainBook x = new TrainBook();
        Check.add(x, 1, 0, 10, 10, 1, 20, 20);
        Check.add(x, 64, 0, 30, 30, 1, 40, 40);
        Check.add(x, 65, 0, 50, 50, 1, 60, 60);
        Check.due("day 0", x.departures(0, 1, 0), 2);
        Check.due("day 6", x.departures(0, 1, 6), 2);
        Check.due("day 3", x.departures(0, 1, 3), 0);
        Check.due("day 0", x.departure(0, 1, 0, 0), 10);
        Check.due("day 6", x.departure(0, 1, 6, 0), 30);
    }

    static void promise20ByWhatTheChangeAllows() {
        TrainBook x = changing(60, 60);
        Check.dueDepartures(x, 0, 2, 10);
        Check.dueDepartures(changing(60, 59), 0, 2);
        Check.dueDepartures(changing(0, 0), 0, 2, 10);
        Check.line(x, 0, 40, 1, 101);
        Check.dueDepartures(x, 0, 2, 10);
        x.change(59);
        Check.dueDepartures(x, 0, 2, 40);
    }

    /** Minute by minute as the sentence says, each way asked of a book used for few calls. */
    static void promise20EachMinuteByItsWays() {
        int[][] pairs = {{0, 5}, {3, 8}, {7, 0}, {11, 4}, {5, 10}};
        for (int[] pair : pairs) {
            List<Integer> minutes = new ArrayList<>();
            TrainBook asked = Check.fullBook();
            int calls = 100;
            for (int minute = 0; minute < 1440; minute++) {
                if (calls > 500) {
                    asked = Check.fullBook();
                    calls = 100;
                }
                int comes = asked.way(pair[0], pair[1], 6, minute, 0);
                int goes = asked.way(pair[0], pair[1], 6, minute, 2);
                int later = asked.way(pair[0], pair[1], 6, minute + 1, 0);
                calls += 3;
                if (comes != -1 && goes == minute && (later == -1 || later > comes)) {
                    minutes.add(minute);
                }
            }
            TrainBook x = Check.fullBook();
            Check.due("departures", x.departures(pair[0], pair[1], 6), minutes.size());
            for (int k = 0; k < minutes.size(); k++) {
                Check.due("departure", x.departure(pair[0], pair[1], 6, k), minutes.get(k));
            }
            Check.due("there are some", minutes.size() > 1, true);
        }
    }

    // "NONE if one can't be."

    static void promise20NoneIfOneCannotBe() {
        TrainBook x = oneTrain();
        for (int never : Check.NEVER) {
            Check.due("from " + never, x.departures(never, 11, 0), -1);
            Check.due("to " + never, x.departures(0, never, 0), -1);
            Check.due("day " + never, x.departures(0, 11, never), -1);
        }
        Check.due("from 12", x.departures(12, 11, 0), -1);
        Check.due("to 12", x.departures(0, 12, 0), -1);
        Check.due("day 7", x.departures(0, 11, 7), -1);
        Check.due("day 32", x.departures(0, 11, 32), -1);
        Check.due("day 6", x.departures(0, 11, 6), 1);
    }

    static void promise20NoneIfFromIsTo() {
        TrainBook x = oneTrain();
        for (int station = 0; station < 12; station++) {
            Check.due("station " + station, x.departures(station, station, 0), -1);
        }
    }

    // ---- 21: "The k-th of these minutes; NONE if there is none such."

    private static TrainBook threeMinutes() {
        TrainBook x = new TrainBook();
        Check.line(x, 0, 30, 1, 60);
        Check.line(x, 0, 10, 1, 40);
        Check.line(x, 0, 20, 1, 50);
        return x;
    }

    static void promise21FromTheFirstToTheLast() {
        TrainBook x = threeMinutes();
        Check.due("k 0", x.departure(0, 1, 0, 0), 10);
        Check.due("k 1", x.departure(0, 1, 0, 1), 20);
        Check.due("k 2", x.departure(0, 1, 0, 2), 30);
    }

    static void promise21NoneForNoSuchK() {
        TrainBook x = threeMinutes();
        for (int k : Check.NEVER) {
            Check.due("k " + k, x.departure(0, 1, 0, k), -1);
        }
        for (int k = 3; k < 20; k++) {
            Check.due("k " + k, x.departure(0, 1, 0, k), -1);
        }
    }

    static void promise21NoneIfThereAreNoMinutes() {
        TrainBook x = threeMinutes();
        for (int k = -1; k < 4; k++) {
            Check.due("backward, k " + k, x.departure(1, 0, 0, k), -1);
            Check.due("day 1, k " + k, x.departure(0, 1, 1, k), -1);
            Check.due("a new book, k " + k, new TrainBook().departure(0, 1, 0, k), -1);
        }
    }

    static void promise21AnotherAnswerDoesNotStay() {
        TrainBook x = threeMinutes();
        Check.line(x, 1, 15, 0, 25);
        Check.due("departures(0, 1, 0)", x.departures(0, 1, 0), 3);
        Check.due("departure(1, 0, 0, 0)", x.departure(1, 0, 0, 0), 15);
        Check.due("departure(1, 0, 0, 1)", x.departure(1, 0, 0, 1), -1);
        x.days(1, 2);
        Check.due("departure(0, 1, 0, 0)", x.departure(0, 1, 0, 0), 20);
        Check.due("departure(0, 1, 0, 2)", x.departure(0, 1, 0, 2), -1);
    }

    static void promise21NoneIfOneCannotBe() {
        TrainBook x = threeMinutes();
        for (int never : Check.NEVER) {
            Check.due("from " + never, x.departure(never, 1, 0, 0), -1);
            Check.due("to " + never, x.departure(0, never, 0, 0), -1);
            Check.due("day " + never, x.departure(0, 1, never, 0), -1);
        }
        Check.due("from 12", x.departure(12, 1, 0, 0), -1);
        Check.due("to 12", x.departure(0, 12, 0, 0), -1);
        Check.due("day 7", x.departure(0, 1, 7, 0), -1);
        Check.due("day 32", x.departure(0, 1, 32, 0), -1);
        Check.due("from is to", x.departure(0, 0, 0, 0), -1);
    }
}

import java.lang.reflect.InvocationTargetException;
import java.lang.reflect.Method;
import java.util.ArrayList;
import java.util.Comparator;
import java.util.List;
import java.util.function.Supplier;
import java.util.function.ToLongFunction;
import java.util.regex.Matcher;
import java.util.regex.Pattern;

/**
 * What tests of the document share: they run each method of theirs whose name tells a promise or a part
 * of the terms, and look at all that a book answers, so that a call that must do nothing is seen to do
 * nothing. No object is used for more than 512 calls, because what later calls answer is free.
 */
final class Check {
    static final int LEAST = Integer.MIN_VALUE;
    static final int MOST = Integer.MAX_VALUE;
    /** Numbers that no train, station, row, column, day, sign, minute or what can have. */
    static final int[] NEVER = {-1, -2, -7, -100, -1440, LEAST, LEAST + 1, 1440, 65536, 1 << 30, MOST - 1, MOST};
    private static final Pattern TEST = Pattern.compile("(promise|part)(\\d+)[A-Z]\\w*");
    private static final int DAYS_READ_FROM = 5;
    private static final int PARTS = DAYS_READ_FROM + 7;
    private static int wrong = 0;
    private static String test = "";

    private Check() {
    }

    static void runAll(Class<?> tests, String kind, int first, int last) {
        int ran = 0;
        for (int number = first; number <= last; number++) {
            List<Method> own = testsOf(tests, kind, number);
            if (own.isEmpty()) {
                wrong++;
                System.out.println(kind + " " + number + " has no test");
            }
            for (Method method : own) {
                run(method);
                ran++;
            }
        }
        System.out.println(wrong == 0 ? "all answers of " + ran + " tests are as due" : wrong + " answers are not as due");
        if (wrong != 0) {
            System.exit(1);
        }
    }

    private static List<Method> testsOf(Class<?> tests, String kind, int number) {
        List<Method> own = new ArrayList<>();
        for (Method method : tests.getDeclaredMethods()) {
            Matcher name = TEST.matcher(method.getName());
            if (name.matches() && name.group(1).equals(kind) && Integer.parseInt(name.group(2)) == number) {
                own.add(method);
            }
        }
        own.sort(Comparator.comparing(Method::getName));
        return own;
    }

    private static void run(Method method) {
        test = method.getName();
        try {
            method.invoke(null);
        } catch (InvocationTargetException e) {
            wrong++;
            System.out.println(test + ": threw " + e.getCause());
        } catch (IllegalAccessException e) {
            wrong++;
            System.out.println(test + ": can't be run: " + e);
        }
    }

    static void due(String call, long got, long want) {
        if (got != want) {
            wrong++;
            System.out.println(test + ": " + call + " answered " + got + ", due is " + want);
        }
    }

    static void due(String call, boolean got, boolean want) {
        due(call, bit(got), bit(want));
    }

    static long bit(boolean answer) {
        return answer ? 1 : 0;
    }

    /** A train with stops told as station, comes, goes in turn; its number. */
    static int add(TrainBook x, int days, int... stops) {
        int t = x.train(days);
        addStops(x, t, stops);
        return t;
    }

    static void addStops(TrainBook x, int t, int... stops) {
        int had = x.about(100 * t + 101);
        for (int i = 0; i < stops.length; i += 3) {
            int count = x.stop(t, stops[i], stops[i + 1], stops[i + 2]);
            due("stop(" + t + ", " + stops[i] + ", " + stops[i + 1] + ", " + stops[i + 2] + ")", count, had + i / 3 + 1);
        }
    }

    /** A train on day 0 that calls at each station for the one minute told: station, minute in turn. */
    static int line(TrainBook x, int... stops) {
        int t = x.train(1);
        for (int i = 0; i < stops.length; i += 2) {
            due("stop(" + t + ", " + stops[i] + ", ..)", x.stop(t, stops[i], stops[i + 1], stops[i + 1]), i / 2 + 1);
        }
        return t;
    }

    static void dueRows(TrainBook x, int... stations) {
        due("about(2)", x.about(2), stations.length);
        for (int i = 0; i < stations.length; i++) {
            due("row(" + i + ")", x.row(i), stations[i]);
        }
        due("row(" + stations.length + ")", x.row(stations.length), -1);
    }

    static void dueColumns(TrainBook x, int... trains) {
        due("about(3)", x.about(3), trains.length);
        for (int i = 0; i < trains.length; i++) {
            due("column(" + i + ")", x.column(i), trains[i]);
        }
        due("column(" + trains.length + ")", x.column(trains.length), -1);
    }

    /** That the best way on day 0 has these parts: train, boarded at, left at, goes, comes in turn. */
    static void dueWay(TrainBook x, int from, int to, int minute, int... parts) {
        String name = "way(" + from + ", " + to + ", 0, " + minute + ", ";
        due(name + "0)", x.way(from, to, 0, minute, 0), parts[parts.length - 1]);
        due(name + "1)", x.way(from, to, 0, minute, 1), parts.length / 5);
        due(name + "2)", x.way(from, to, 0, minute, 2), parts[3]);
        for (int i = 0; i < parts.length; i++) {
            int what = i / 5 * 10 + 10 + i % 5;
            due(name + what + ")", x.way(from, to, 0, minute, what), parts[i]);
        }
    }

    static void dueDepartures(TrainBook x, int from, int to, int... minutes) {
        String name = "(" + from + ", " + to + ", 0";
        due("departures" + name + ")", x.departures(from, to, 0), minutes.length);
        for (int k = 0; k < minutes.length; k++) {
            due("departure" + name + ", " + k + ")", x.departure(from, to, 0, k), minutes[k]);
        }
        due("departure" + name + ", " + minutes.length + ")", x.departure(from, to, 0, minutes.length), -1);
        due("departure" + name + ", -1)", x.departure(from, to, 0, -1), -1);
    }

    /** Three trains of 3, 2 and no stops, a table of the first two, three signs told and a CHANGE. */
    static TrainBook someBook() {
        TrainBook x = new TrainBook();
        add(x, 31, 4, 10, 12, 5, 20, 25, 6, 40, 41);
        add(x, 65, 6, 60, 70, 4, 80, 90);
        x.train(127);
        x.table(3);
        x.sign(7, 31);
        x.sign(8, 65);
        x.sign(12, 96);
        x.change(9);
        return x;
    }

    /** Ten trains of seven stops each, a table of six of them and all signs told. */
    static TrainBook fullBook() {
        TrainBook x = new TrainBook();
        for (int t = 0; t < 10; t++) {
            x.train(127 - t);
            for (int i = 0; i < 7; i++) {
                int comes = 13 * t + 150 * i;
                x.stop(t, (t + 5 * i) % 12, comes, comes + t);
            }
        }
        x.table(0b1001111001);
        for (int i = 7; i <= 12; i++) {
            x.sign(i, 3 << i - 7);
        }
        return x;
    }

    /** That the call answers what is due and that all else stays as it was. */
    static void refused(String name, Supplier<TrainBook> make, ToLongFunction<TrainBook> call, long answer) {
        due(name, call.applyAsLong(make.get()), answer);
        keepsAll(name, make, call);
    }

    static void keepsAll(String name, Supplier<TrainBook> make, ToLongFunction<TrainBook> call) {
        for (int part = 0; part < PARTS; part++) {
            keepsPart(name, make, call, part);
        }
    }

    /** That the table answers what it did, whatever the call does to the trains. */
    static void keepsTable(String name, Supplier<TrainBook> make, ToLongFunction<TrainBook> call) {
        for (int part = 2; part < DAYS_READ_FROM; part++) {
            keepsPart(name, make, call, part);
        }
    }

    private static void keepsPart(String name, Supplier<TrainBook> make, ToLongFunction<TrainBook> call, int part) {
        List<Integer> before = read(make.get(), part);
        TrainBook x = make.get();
        call.applyAsLong(x);
        List<Integer> after = read(x, part);
        for (int k = 0; k < before.size(); k++) {
            if (!before.get(k).equals(after.get(k))) {
                due("behind " + name + " answer " + k + " of part " + part, after.get(k), before.get(k));
                return;
            }
        }
    }

    private static List<Integer> read(TrainBook x, int part) {
        List<Integer> answers = new ArrayList<>();
        switch (part) {
            case 0 -> readTrains(x, answers);
            case 1 -> readSigns(x, answers);
            case 2 -> readTable(x, answers);
            case 3 -> readCells(x, answers, 0);
            case 4 -> readCells(x, answers, 3);
            default -> readWays(x, answers, part - DAYS_READ_FROM);
        }
        return answers;
    }

    private static void readTrains(TrainBook x, List<Integer> answers) {
        answers.add(x.about(0));
        answers.add(x.about(1));
        for (int t = 0; t < 10; t++) {
            answers.add(x.about(100 * t + 100));
            answers.add(x.about(100 * t + 101));
            for (int i = 0; i < 7; i++) {
                for (int k = 0; k < 3; k++) {
                    answers.add(x.about(100 * t + 110 + 10 * i + k));
                }
            }
        }
    }

    /** Signs that are told show only through trains, so train 0 is given all DAYS in turn. */
    private static void readSigns(TrainBook x, List<Integer> answers) {
        for (int t = 0; t < 10; t++) {
            answers.add(x.signs(t, 0));
            answers.add(x.signs(t, 1));
        }
        for (int days = 1; days <= 127; days++) {
            x.days(0, days);
            answers.add(x.signs(0, 1));
        }
    }

    private static void readTable(TrainBook x, List<Integer> answers) {
        answers.add(x.about(2));
        answers.add(x.about(3));
        for (int i = 0; i <= 42; i++) {
            answers.add(x.row(i));
        }
        for (int i = 0; i <= 6; i++) {
            answers.add(x.column(i));
            answers.add(x.lane(i));
            for (int j = 0; j <= 6; j++) {
                answers.add(x.breach(i, j));
            }
        }
        answers.add(x.breaches(0));
        answers.add(x.breaches(1));
        answers.add(x.lanes());
    }

    private static void readCells(TrainBook x, List<Integer> answers, int firstColumn) {
        for (int j = firstColumn; j < firstColumn + 3; j++) {
            for (int i = 0; i <= 42; i++) {
                answers.add(x.cell(i, j, 0));
                answers.add(x.cell(i, j, 1));
            }
        }
    }

    private static void readWays(TrainBook x, List<Integer> answers, int day) {
        for (int from = 0; from < 12; from++) {
            for (int to = 0; to < 12; to++) {
                answers.add(x.way(from, to, day, 0, 0));
                answers.add(x.departures(from, to, day));
            }
        }
    }
}

import java.lang.management.ManagementFactory;
import java.util.Random;

/**
 * That no call throws, whatever it is given in whatever state, and that a run of 512 of the dearest
 * calls stays far below the room that all calls of a run share.
 */
public final class RoomTest {
    private static final long ROOM = 4L * 1000 * 1000;
    private static final int[] ODD = {
        Integer.MIN_VALUE, Integer.MIN_VALUE + 1, -1440, -101, -100, -7, -2, -1, 0, 1, 2, 3, 5, 6, 7, 8, 9, 10, 11, 12,
        13, 14, 20, 59, 60, 61, 63, 99, 100, 127, 128, 255, 256, 511, 512, 1000, 1023, 1024, 1099, 1100, 1439, 1440,
        Integer.MAX_VALUE - 1, Integer.MAX_VALUE,
    };
    private static int wrong = 0;

    public static void main(String[] args) {
        oddCalls();
        dearestCalls();
        allCallsOfAnObject();
        System.out.println(wrong == 0 ? "the room is enough" : wrong + " faults");
        if (wrong != 0) {
            System.exit(1);
        }
    }

    /** A call that throws ends the test with another exit code than 0. */
    private static void oddCalls() {
        Random random = new Random(7);
        for (int run = 0; run < 400; run++) {
            TrainBook x = run % 2 == 0 ? new TrainBook() : fullBook(random, 7);
            for (int call = 0; call < 512; call++) {
                oddCall(x, random);
            }
        }
    }

    private static int odd(Random random) {
        return random.nextInt(3) == 0 ? random.nextInt() : ODD[random.nextInt(ODD.length)];
    }

    private static void oddCall(TrainBook x, Random random) {
        int a = odd(random);
        int b = odd(random);
        int c = odd(random);
        int d = odd(random);
        int e = odd(random);
        switch (random.nextInt(20)) {
            case 0: x.train(a); break;
            case 1: x.stop(a, b, c, d); break;
            case 2: x.days(a, b); break;
            case 3: x.cut(a); break;
            case 4: x.shift(a, b); break;
            case 5: x.sign(a, b); break;
            case 6: x.change(a); break;
            case 7: x.about(a); break;
            case 8: x.signs(a, b); break;
            case 9: x.table(a); break;
            case 10: x.row(a); break;
            case 11: x.column(a); break;
            case 12: x.cell(a, b, c); break;
            case 13: x.breaches(a); break;
            case 14: x.breach(a, b); break;
            case 15: x.lanes(); break;
            case 16: x.lane(a); break;
            case 17: x.way(a, b, c, d, e); break;
            case 18: x.departures(a, b, c); break;
            default: x.departure(a, b, c, d); break;
        }
    }

    private static TrainBook fullBook(Random random, int stops) {
        TrainBook x = new TrainBook();
        for (int t = 0; t < 10; t++) {
            x.train(127);
            int minute = random.nextInt(100);
            int count = 0;
            for (int tries = 0; tries < 1000 && count < stops; tries++) {
                int added = x.stop(t, random.nextInt(12), minute, minute + random.nextInt(5));
                if (added > 0) {
                    count = added;
                    minute += 6 + random.nextInt(30);
                }
            }
        }
        return x;
    }

    /** An object is used for 512 calls: the last one is answered as the first one was. */
    private static void allCallsOfAnObject() {
        TrainBook x = Check.fullBook();
        int madeWith = 87;
        int rows = x.table(63);
        int comes = x.way(0, 5, 6, 0, 0);
        for (int call = madeWith + 3; call <= 512; call++) {
            boolean same = call % 2 == 0 ? x.table(63) == rows : x.way(0, 5, 6, 0, 0) == comes;
            if (!same) {
                wrong++;
                System.out.println("call " + call + " is not answered as before");
            }
        }
    }

    private static void dearestCalls() {
        com.sun.management.ThreadMXBean threads =
                (com.sun.management.ThreadMXBean) ManagementFactory.getThreadMXBean();
        long thread = Thread.currentThread().getId();
        Random random = new Random(3);
        TrainBook grown = fullBook(random, 7);
        long before = threads.getThreadAllocatedBytes(thread);
        for (int call = 0; call < 128; call++) {
            grown.table((1 << 1 + call % 6) - 1);
            grown.way(call % 12, (call + 1) % 12, 0, 0, 0);
            grown.departures(call % 12, (call + 5) % 12, 0);
            grown.signs(call % 10, 1);
        }
        long used = threads.getThreadAllocatedBytes(thread) - before;
        if (used > ROOM) {
            wrong++;
            System.out.println("512 calls took " + used + " bytes, more than " + ROOM);
        }
    }
}
